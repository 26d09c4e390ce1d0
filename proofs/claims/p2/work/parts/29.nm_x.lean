theorem dJ6_bitCount_0f7a4_0 : decode cJ6_bitCount_0f7a4 0 = .ok (.iload_n 0, 1) := by decide +kernel
theorem dJ6_bitCount_0f7a4_1 : decode cJ6_bitCount_0f7a4 1 = .ok (.iload_n 0, 1) := by decide +kernel
theorem dJ6_bitCount_0f7a4_10 : decode cJ6_bitCount_0f7a4 10 = .ok (.iload_n 0, 1) := by decide +kernel
theorem dJ6_bitCount_0f7a4_11 : decode cJ6_bitCount_0f7a4 11 = .ok (.ldc_w 266, 3) := by decide +kernel
theorem dJ6_bitCount_0f7a4_14 : decode cJ6_bitCount_0f7a4 14 = .ok (.iand, 1) := by decide +kernel
theorem dJ6_bitCount_0f7a4_15 : decode cJ6_bitCount_0f7a4 15 = .ok (.iload_n 0, 1) := by decide +kernel
theorem dJ6_bitCount_0f7a4_16 : decode cJ6_bitCount_0f7a4 16 = .ok (.iconst 2, 1) := by decide +kernel
theorem dJ6_bitCount_0f7a4_17 : decode cJ6_bitCount_0f7a4 17 = .ok (.iushr, 1) := by decide +kernel
theorem dJ6_bitCount_0f7a4_18 : decode cJ6_bitCount_0f7a4 18 = .ok (.ldc_w 266, 3) := by decide +kernel
theorem dJ6_bitCount_0f7a4_2 : decode cJ6_bitCount_0f7a4 2 = .ok (.iconst 1, 1) := by decide +kernel
theorem dJ6_bitCount_0f7a4_21 : decode cJ6_bitCount_0f7a4 21 = .ok (.iand, 1) := by decide +kernel
theorem dJ6_bitCount_0f7a4_22 : decode cJ6_bitCount_0f7a4 22 = .ok (.iadd, 1) := by decide +kernel
theorem dJ6_bitCount_0f7a4_23 : decode cJ6_bitCount_0f7a4 23 = .ok (.istore_n 0, 1) := by decide +kernel
theorem dJ6_bitCount_0f7a4_24 : decode cJ6_bitCount_0f7a4 24 = .ok (.iload_n 0, 1) := by decide +kernel
theorem dJ6_bitCount_0f7a4_25 : decode cJ6_bitCount_0f7a4 25 = .ok (.iload_n 0, 1) := by decide +kernel
theorem dJ6_bitCount_0f7a4_26 : decode cJ6_bitCount_0f7a4 26 = .ok (.iconst 4, 1) := by decide +kernel
theorem dJ6_bitCount_0f7a4_27 : decode cJ6_bitCount_0f7a4 27 = .ok (.iushr, 1) := by decide +kernel
theorem dJ6_bitCount_0f7a4_28 : decode cJ6_bitCount_0f7a4 28 = .ok (.iadd, 1) := by decide +kernel
theorem dJ6_bitCount_0f7a4_29 : decode cJ6_bitCount_0f7a4 29 = .ok (.ldc_w 267, 3) := by decide +kernel
theorem dJ6_bitCount_0f7a4_3 : decode cJ6_bitCount_0f7a4 3 = .ok (.iushr, 1) := by decide +kernel
theorem dJ6_bitCount_0f7a4_32 : decode cJ6_bitCount_0f7a4 32 = .ok (.iand, 1) := by decide +kernel
theorem dJ6_bitCount_0f7a4_33 : decode cJ6_bitCount_0f7a4 33 = .ok (.istore_n 0, 1) := by decide +kernel
theorem dJ6_bitCount_0f7a4_34 : decode cJ6_bitCount_0f7a4 34 = .ok (.iload_n 0, 1) := by decide +kernel
theorem dJ6_bitCount_0f7a4_35 : decode cJ6_bitCount_0f7a4 35 = .ok (.iload_n 0, 1) := by decide +kernel
theorem dJ6_bitCount_0f7a4_36 : decode cJ6_bitCount_0f7a4 36 = .ok (.bipush 8, 2) := by decide +kernel
theorem dJ6_bitCount_0f7a4_38 : decode cJ6_bitCount_0f7a4 38 = .ok (.iushr, 1) := by decide +kernel
theorem dJ6_bitCount_0f7a4_39 : decode cJ6_bitCount_0f7a4 39 = .ok (.iadd, 1) := by decide +kernel
theorem dJ6_bitCount_0f7a4_4 : decode cJ6_bitCount_0f7a4 4 = .ok (.ldc_w 265, 3) := by decide +kernel
theorem dJ6_bitCount_0f7a4_40 : decode cJ6_bitCount_0f7a4 40 = .ok (.istore_n 0, 1) := by decide +kernel
theorem dJ6_bitCount_0f7a4_41 : decode cJ6_bitCount_0f7a4 41 = .ok (.iload_n 0, 1) := by decide +kernel
theorem dJ6_bitCount_0f7a4_42 : decode cJ6_bitCount_0f7a4 42 = .ok (.iload_n 0, 1) := by decide +kernel
theorem dJ6_bitCount_0f7a4_43 : decode cJ6_bitCount_0f7a4 43 = .ok (.bipush 16, 2) := by decide +kernel
theorem dJ6_bitCount_0f7a4_45 : decode cJ6_bitCount_0f7a4 45 = .ok (.iushr, 1) := by decide +kernel
theorem dJ6_bitCount_0f7a4_46 : decode cJ6_bitCount_0f7a4 46 = .ok (.iadd, 1) := by decide +kernel
theorem dJ6_bitCount_0f7a4_47 : decode cJ6_bitCount_0f7a4 47 = .ok (.istore_n 0, 1) := by decide +kernel
theorem dJ6_bitCount_0f7a4_48 : decode cJ6_bitCount_0f7a4 48 = .ok (.iload_n 0, 1) := by decide +kernel
theorem dJ6_bitCount_0f7a4_49 : decode cJ6_bitCount_0f7a4 49 = .ok (.bipush 63, 2) := by decide +kernel
theorem dJ6_bitCount_0f7a4_51 : decode cJ6_bitCount_0f7a4 51 = .ok (.iand, 1) := by decide +kernel
theorem dJ6_bitCount_0f7a4_52 : decode cJ6_bitCount_0f7a4 52 = .ok (.ireturn, 1) := by decide +kernel
theorem dJ6_bitCount_0f7a4_7 : decode cJ6_bitCount_0f7a4 7 = .ok (.iand, 1) := by decide +kernel
theorem dJ6_bitCount_0f7a4_8 : decode cJ6_bitCount_0f7a4 8 = .ok (.isub, 1) := by decide +kernel
theorem dJ6_bitCount_0f7a4_9 : decode cJ6_bitCount_0f7a4 9 = .ok (.istore_n 0, 1) := by decide +kernel
theorem dJ6_numberOfTrailingZeros_0f7a4_0 : decode cJ6_numberOfTrailingZeros_0f7a4 0 = .ok (.iload_n 0, 1) := by decide +kernel
theorem dJ6_numberOfTrailingZeros_0f7a4_1 : decode cJ6_numberOfTrailingZeros_0f7a4 1 = .ok (.iconst (-1), 1) := by decide +kernel
theorem dJ6_numberOfTrailingZeros_0f7a4_12 : decode cJ6_numberOfTrailingZeros_0f7a4 12 = .ok (.iload_n 0, 1) := by decide +kernel
theorem dJ6_numberOfTrailingZeros_0f7a4_13 : decode cJ6_numberOfTrailingZeros_0f7a4 13 = .ok (.bipush 32, 2) := by decide +kernel
theorem dJ6_numberOfTrailingZeros_0f7a4_15 : decode cJ6_numberOfTrailingZeros_0f7a4 15 = .ok (.iand, 1) := by decide +kernel
theorem dJ6_numberOfTrailingZeros_0f7a4_16 : decode cJ6_numberOfTrailingZeros_0f7a4 16 = .ok (.ireturn, 1) := by decide +kernel
theorem dJ6_numberOfTrailingZeros_0f7a4_17 : decode cJ6_numberOfTrailingZeros_0f7a4 17 = .ok (.iconst 1, 1) := by decide +kernel
theorem dJ6_numberOfTrailingZeros_0f7a4_18 : decode cJ6_numberOfTrailingZeros_0f7a4 18 = .ok (.istore_n 1, 1) := by decide +kernel
theorem dJ6_numberOfTrailingZeros_0f7a4_19 : decode cJ6_numberOfTrailingZeros_0f7a4 19 = .ok (.iload_n 0, 1) := by decide +kernel
theorem dJ6_numberOfTrailingZeros_0f7a4_2 : decode cJ6_numberOfTrailingZeros_0f7a4 2 = .ok (.ixor, 1) := by decide +kernel
theorem dJ6_numberOfTrailingZeros_0f7a4_20 : decode cJ6_numberOfTrailingZeros_0f7a4 20 = .ok (.ldc_w 264, 3) := by decide +kernel
theorem dJ6_numberOfTrailingZeros_0f7a4_23 : decode cJ6_numberOfTrailingZeros_0f7a4 23 = .ok (.if_icmp .le 11, 3) := by decide +kernel
theorem dJ6_numberOfTrailingZeros_0f7a4_26 : decode cJ6_numberOfTrailingZeros_0f7a4 26 = .ok (.iinc 1 16, 3) := by decide +kernel
theorem dJ6_numberOfTrailingZeros_0f7a4_29 : decode cJ6_numberOfTrailingZeros_0f7a4 29 = .ok (.iload_n 0, 1) := by decide +kernel
theorem dJ6_numberOfTrailingZeros_0f7a4_3 : decode cJ6_numberOfTrailingZeros_0f7a4 3 = .ok (.iload_n 0, 1) := by decide +kernel
theorem dJ6_numberOfTrailingZeros_0f7a4_30 : decode cJ6_numberOfTrailingZeros_0f7a4 30 = .ok (.bipush 16, 2) := by decide +kernel
theorem dJ6_numberOfTrailingZeros_0f7a4_32 : decode cJ6_numberOfTrailingZeros_0f7a4 32 = .ok (.iushr, 1) := by decide +kernel
theorem dJ6_numberOfTrailingZeros_0f7a4_33 : decode cJ6_numberOfTrailingZeros_0f7a4 33 = .ok (.istore_n 0, 1) := by decide +kernel
theorem dJ6_numberOfTrailingZeros_0f7a4_34 : decode cJ6_numberOfTrailingZeros_0f7a4 34 = .ok (.iload_n 0, 1) := by decide +kernel
theorem dJ6_numberOfTrailingZeros_0f7a4_35 : decode cJ6_numberOfTrailingZeros_0f7a4 35 = .ok (.sipush 256, 3) := by decide +kernel
theorem dJ6_numberOfTrailingZeros_0f7a4_38 : decode cJ6_numberOfTrailingZeros_0f7a4 38 = .ok (.if_icmp .le 11, 3) := by decide +kernel
theorem dJ6_numberOfTrailingZeros_0f7a4_4 : decode cJ6_numberOfTrailingZeros_0f7a4 4 = .ok (.iconst 1, 1) := by decide +kernel
theorem dJ6_numberOfTrailingZeros_0f7a4_41 : decode cJ6_numberOfTrailingZeros_0f7a4 41 = .ok (.iinc 1 8, 3) := by decide +kernel
theorem dJ6_numberOfTrailingZeros_0f7a4_44 : decode cJ6_numberOfTrailingZeros_0f7a4 44 = .ok (.iload_n 0, 1) := by decide +kernel
theorem dJ6_numberOfTrailingZeros_0f7a4_45 : decode cJ6_numberOfTrailingZeros_0f7a4 45 = .ok (.bipush 8, 2) := by decide +kernel
theorem dJ6_numberOfTrailingZeros_0f7a4_47 : decode cJ6_numberOfTrailingZeros_0f7a4 47 = .ok (.iushr, 1) := by decide +kernel
theorem dJ6_numberOfTrailingZeros_0f7a4_48 : decode cJ6_numberOfTrailingZeros_0f7a4 48 = .ok (.istore_n 0, 1) := by decide +kernel
theorem dJ6_numberOfTrailingZeros_0f7a4_49 : decode cJ6_numberOfTrailingZeros_0f7a4 49 = .ok (.iload_n 0, 1) := by decide +kernel
theorem dJ6_numberOfTrailingZeros_0f7a4_5 : decode cJ6_numberOfTrailingZeros_0f7a4 5 = .ok (.isub, 1) := by decide +kernel
theorem dJ6_numberOfTrailingZeros_0f7a4_50 : decode cJ6_numberOfTrailingZeros_0f7a4 50 = .ok (.bipush 16, 2) := by decide +kernel
theorem dJ6_numberOfTrailingZeros_0f7a4_52 : decode cJ6_numberOfTrailingZeros_0f7a4 52 = .ok (.if_icmp .le 10, 3) := by decide +kernel
theorem dJ6_numberOfTrailingZeros_0f7a4_55 : decode cJ6_numberOfTrailingZeros_0f7a4 55 = .ok (.iinc 1 4, 3) := by decide +kernel
theorem dJ6_numberOfTrailingZeros_0f7a4_58 : decode cJ6_numberOfTrailingZeros_0f7a4 58 = .ok (.iload_n 0, 1) := by decide +kernel
theorem dJ6_numberOfTrailingZeros_0f7a4_59 : decode cJ6_numberOfTrailingZeros_0f7a4 59 = .ok (.iconst 4, 1) := by decide +kernel
theorem dJ6_numberOfTrailingZeros_0f7a4_6 : decode cJ6_numberOfTrailingZeros_0f7a4 6 = .ok (.iand, 1) := by decide +kernel
theorem dJ6_numberOfTrailingZeros_0f7a4_60 : decode cJ6_numberOfTrailingZeros_0f7a4 60 = .ok (.iushr, 1) := by decide +kernel
theorem dJ6_numberOfTrailingZeros_0f7a4_61 : decode cJ6_numberOfTrailingZeros_0f7a4 61 = .ok (.istore_n 0, 1) := by decide +kernel
theorem dJ6_numberOfTrailingZeros_0f7a4_62 : decode cJ6_numberOfTrailingZeros_0f7a4 62 = .ok (.iload_n 0, 1) := by decide +kernel
theorem dJ6_numberOfTrailingZeros_0f7a4_63 : decode cJ6_numberOfTrailingZeros_0f7a4 63 = .ok (.iconst 4, 1) := by decide +kernel
theorem dJ6_numberOfTrailingZeros_0f7a4_64 : decode cJ6_numberOfTrailingZeros_0f7a4 64 = .ok (.if_icmp .le 10, 3) := by decide +kernel
theorem dJ6_numberOfTrailingZeros_0f7a4_67 : decode cJ6_numberOfTrailingZeros_0f7a4 67 = .ok (.iinc 1 2, 3) := by decide +kernel
theorem dJ6_numberOfTrailingZeros_0f7a4_7 : decode cJ6_numberOfTrailingZeros_0f7a4 7 = .ok (.istore_n 0, 1) := by decide +kernel
theorem dJ6_numberOfTrailingZeros_0f7a4_70 : decode cJ6_numberOfTrailingZeros_0f7a4 70 = .ok (.iload_n 0, 1) := by decide +kernel
theorem dJ6_numberOfTrailingZeros_0f7a4_71 : decode cJ6_numberOfTrailingZeros_0f7a4 71 = .ok (.iconst 2, 1) := by decide +kernel
theorem dJ6_numberOfTrailingZeros_0f7a4_72 : decode cJ6_numberOfTrailingZeros_0f7a4 72 = .ok (.iushr, 1) := by decide +kernel
theorem dJ6_numberOfTrailingZeros_0f7a4_73 : decode cJ6_numberOfTrailingZeros_0f7a4 73 = .ok (.istore_n 0, 1) := by decide +kernel
theorem dJ6_numberOfTrailingZeros_0f7a4_74 : decode cJ6_numberOfTrailingZeros_0f7a4 74 = .ok (.iload_n 1, 1) := by decide +kernel
theorem dJ6_numberOfTrailingZeros_0f7a4_75 : decode cJ6_numberOfTrailingZeros_0f7a4 75 = .ok (.iload_n 0, 1) := by decide +kernel
theorem dJ6_numberOfTrailingZeros_0f7a4_76 : decode cJ6_numberOfTrailingZeros_0f7a4 76 = .ok (.iconst 1, 1) := by decide +kernel
theorem dJ6_numberOfTrailingZeros_0f7a4_77 : decode cJ6_numberOfTrailingZeros_0f7a4 77 = .ok (.iushr, 1) := by decide +kernel
theorem dJ6_numberOfTrailingZeros_0f7a4_78 : decode cJ6_numberOfTrailingZeros_0f7a4 78 = .ok (.iadd, 1) := by decide +kernel
theorem dJ6_numberOfTrailingZeros_0f7a4_79 : decode cJ6_numberOfTrailingZeros_0f7a4 79 = .ok (.ireturn, 1) := by decide +kernel
theorem dJ6_numberOfTrailingZeros_0f7a4_8 : decode cJ6_numberOfTrailingZeros_0f7a4 8 = .ok (.iload_n 0, 1) := by decide +kernel
theorem dJ6_numberOfTrailingZeros_0f7a4_9 : decode cJ6_numberOfTrailingZeros_0f7a4 9 = .ok (.ifCond .gt 8, 3) := by decide +kernel
theorem dJ9_floorMod_7cf53_0 : decode cJ9_floorMod_7cf53 0 = .ok (.iload_n 0, 1) := by decide +kernel
theorem dJ9_floorMod_7cf53_1 : decode cJ9_floorMod_7cf53 1 = .ok (.iload_n 1, 1) := by decide +kernel
theorem dJ9_floorMod_7cf53_10 : decode cJ9_floorMod_7cf53 10 = .ok (.iload_n 2, 1) := by decide +kernel
theorem dJ9_floorMod_7cf53_11 : decode cJ9_floorMod_7cf53 11 = .ok (.ifCond .eq 7, 3) := by decide +kernel
theorem dJ9_floorMod_7cf53_14 : decode cJ9_floorMod_7cf53 14 = .ok (.iload_n 2, 1) := by decide +kernel
theorem dJ9_floorMod_7cf53_15 : decode cJ9_floorMod_7cf53 15 = .ok (.iload_n 1, 1) := by decide +kernel
theorem dJ9_floorMod_7cf53_16 : decode cJ9_floorMod_7cf53 16 = .ok (.iadd, 1) := by decide +kernel
theorem dJ9_floorMod_7cf53_17 : decode cJ9_floorMod_7cf53 17 = .ok (.ireturn, 1) := by decide +kernel
theorem dJ9_floorMod_7cf53_18 : decode cJ9_floorMod_7cf53 18 = .ok (.iload_n 2, 1) := by decide +kernel
theorem dJ9_floorMod_7cf53_19 : decode cJ9_floorMod_7cf53 19 = .ok (.ireturn, 1) := by decide +kernel
theorem dJ9_floorMod_7cf53_2 : decode cJ9_floorMod_7cf53 2 = .ok (.irem, 1) := by decide +kernel
theorem dJ9_floorMod_7cf53_3 : decode cJ9_floorMod_7cf53 3 = .ok (.istore_n 2, 1) := by decide +kernel
theorem dJ9_floorMod_7cf53_4 : decode cJ9_floorMod_7cf53 4 = .ok (.iload_n 0, 1) := by decide +kernel
theorem dJ9_floorMod_7cf53_5 : decode cJ9_floorMod_7cf53 5 = .ok (.iload_n 1, 1) := by decide +kernel
theorem dJ9_floorMod_7cf53_6 : decode cJ9_floorMod_7cf53 6 = .ok (.ixor, 1) := by decide +kernel
theorem dJ9_floorMod_7cf53_7 : decode cJ9_floorMod_7cf53 7 = .ok (.ifCond .ge 11, 3) := by decide +kernel
theorem dJ9_max_f86c9_0 : decode cJ9_max_f86c9 0 = .ok (.lload_n 0, 1) := by decide +kernel
theorem dJ9_max_f86c9_1 : decode cJ9_max_f86c9 1 = .ok (.lload_n 2, 1) := by decide +kernel
theorem dJ9_max_f86c9_10 : decode cJ9_max_f86c9 10 = .ok (.lload_n 2, 1) := by decide +kernel
theorem dJ9_max_f86c9_11 : decode cJ9_max_f86c9 11 = .ok (.lreturn, 1) := by decide +kernel
theorem dJ9_max_f86c9_2 : decode cJ9_max_f86c9 2 = .ok (.lcmp, 1) := by decide +kernel
theorem dJ9_max_f86c9_3 : decode cJ9_max_f86c9 3 = .ok (.ifCond .lt 7, 3) := by decide +kernel
theorem dJ9_max_f86c9_6 : decode cJ9_max_f86c9 6 = .ok (.lload_n 0, 1) := by decide +kernel
theorem dJ9_max_f86c9_7 : decode cJ9_max_f86c9 7 = .ok (.goto 4, 3) := by decide +kernel
theorem dJ9_min_f86c9_0 : decode cJ9_min_f86c9 0 = .ok (.lload_n 0, 1) := by decide +kernel
theorem dJ9_min_f86c9_1 : decode cJ9_min_f86c9 1 = .ok (.lload_n 2, 1) := by decide +kernel
theorem dJ9_min_f86c9_10 : decode cJ9_min_f86c9 10 = .ok (.lload_n 2, 1) := by decide +kernel
theorem dJ9_min_f86c9_11 : decode cJ9_min_f86c9 11 = .ok (.lreturn, 1) := by decide +kernel
theorem dJ9_min_f86c9_2 : decode cJ9_min_f86c9 2 = .ok (.lcmp, 1) := by decide +kernel
theorem dJ9_min_f86c9_3 : decode cJ9_min_f86c9 3 = .ok (.ifCond .gt 7, 3) := by decide +kernel
theorem dJ9_min_f86c9_6 : decode cJ9_min_f86c9 6 = .ok (.lload_n 0, 1) := by decide +kernel
theorem dJ9_min_f86c9_7 : decode cJ9_min_f86c9 7 = .ok (.goto 4, 3) := by decide +kernel
theorem dX0_hangTime_0 : decode cX0_hangTime 0 = .ok (.aload_n 0, 1) := by decide +kernel
theorem dX0_hangTime_1 : decode cX0_hangTime 1 = .ok (.getfield 40, 3) := by decide +kernel
theorem dX0_hangTime_10 : decode cX0_hangTime 10 = .ok (.getfield 40, 3) := by decide +kernel
theorem dX0_hangTime_13 : decode cX0_hangTime 13 = .ok (.getfield 44, 3) := by decide +kernel
theorem dX0_hangTime_16 : decode cX0_hangTime 16 = .ok (.astore 7, 2) := by decide +kernel
theorem dX0_hangTime_18 : decode cX0_hangTime 18 = .ok (.aload 7, 2) := by decide +kernel
theorem dX0_hangTime_20 : decode cX0_hangTime 20 = .ok (.iconst 0, 1) := by decide +kernel
theorem dX0_hangTime_21 : decode cX0_hangTime 21 = .ok (.iload_n 1, 1) := by decide +kernel
theorem dX0_hangTime_22 : decode cX0_hangTime 22 = .ok (.iastore, 1) := by decide +kernel
theorem dX0_hangTime_23 : decode cX0_hangTime 23 = .ok (.aload 7, 2) := by decide +kernel
theorem dX0_hangTime_25 : decode cX0_hangTime 25 = .ok (.iconst 1, 1) := by decide +kernel
theorem dX0_hangTime_26 : decode cX0_hangTime 26 = .ok (.iload_n 2, 1) := by decide +kernel
theorem dX0_hangTime_27 : decode cX0_hangTime 27 = .ok (.iastore, 1) := by decide +kernel
theorem dX0_hangTime_28 : decode cX0_hangTime 28 = .ok (.aload 7, 2) := by decide +kernel
theorem dX0_hangTime_30 : decode cX0_hangTime 30 = .ok (.iconst 2, 1) := by decide +kernel
theorem dX0_hangTime_31 : decode cX0_hangTime 31 = .ok (.iload_n 3, 1) := by decide +kernel
theorem dX0_hangTime_32 : decode cX0_hangTime 32 = .ok (.iastore, 1) := by decide +kernel
theorem dX0_hangTime_33 : decode cX0_hangTime 33 = .ok (.aload 7, 2) := by decide +kernel
theorem dX0_hangTime_35 : decode cX0_hangTime 35 = .ok (.iconst 3, 1) := by decide +kernel
theorem dX0_hangTime_36 : decode cX0_hangTime 36 = .ok (.iload 4, 2) := by decide +kernel
theorem dX0_hangTime_38 : decode cX0_hangTime 38 = .ok (.iastore, 1) := by decide +kernel
theorem dX0_hangTime_39 : decode cX0_hangTime 39 = .ok (.aload 7, 2) := by decide +kernel
theorem dX0_hangTime_4 : decode cX0_hangTime 4 = .ok (.ifnonnull 5, 3) := by decide +kernel
theorem dX0_hangTime_41 : decode cX0_hangTime 41 = .ok (.iconst 4, 1) := by decide +kernel
theorem dX0_hangTime_42 : decode cX0_hangTime 42 = .ok (.iload 5, 2) := by decide +kernel
theorem dX0_hangTime_44 : decode cX0_hangTime 44 = .ok (.bipush 24, 2) := by decide +kernel
theorem dX0_hangTime_46 : decode cX0_hangTime 46 = .ok (.invokestatic 31, 3) := by decide +kernel
theorem dX0_hangTime_49 : decode cX0_hangTime 49 = .ok (.iastore, 1) := by decide +kernel
theorem dX0_hangTime_50 : decode cX0_hangTime 50 = .ok (.aload 7, 2) := by decide +kernel
theorem dX0_hangTime_52 : decode cX0_hangTime 52 = .ok (.iconst 5, 1) := by decide +kernel
theorem dX0_hangTime_53 : decode cX0_hangTime 53 = .ok (.iload 6, 2) := by decide +kernel
theorem dX0_hangTime_55 : decode cX0_hangTime 55 = .ok (.iastore, 1) := by decide +kernel
theorem dX0_hangTime_56 : decode cX0_hangTime 56 = .ok (.iconst 0, 1) := by decide +kernel
theorem dX0_hangTime_57 : decode cX0_hangTime 57 = .ok (.sipush 999, 3) := by decide +kernel
theorem dX0_hangTime_60 : decode cX0_hangTime 60 = .ok (.aload_n 0, 1) := by decide +kernel
theorem dX0_hangTime_61 : decode cX0_hangTime 61 = .ok (.getfield 40, 3) := by decide +kernel
theorem dX0_hangTime_64 : decode cX0_hangTime 64 = .ok (.invokevirtual 49, 3) := by decide +kernel
theorem dX0_hangTime_67 : decode cX0_hangTime 67 = .ok (.invokestatic 53, 3) := by decide +kernel
theorem dX0_hangTime_7 : decode cX0_hangTime 7 = .ok (.iload_n 1, 1) := by decide +kernel
theorem dX0_hangTime_70 : decode cX0_hangTime 70 = .ok (.invokestatic 56, 3) := by decide +kernel
theorem dX0_hangTime_73 : decode cX0_hangTime 73 = .ok (.ireturn, 1) := by decide +kernel
theorem dX0_hangTime_8 : decode cX0_hangTime 8 = .ok (.ireturn, 1) := by decide +kernel
theorem dX0_hangTime_9 : decode cX0_hangTime 9 = .ok (.aload_n 0, 1) := by decide +kernel
theorem dX0_hasPlace_0 : decode cX0_hasPlace 0 = .ok (.iload_n 1, 1) := by decide +kernel
theorem dX0_hasPlace_1 : decode cX0_hasPlace 1 = .ok (.ifCond .lt 27, 3) := by decide +kernel
theorem dX0_hasPlace_12 : decode cX0_hasPlace 12 = .ok (.iload_n 2, 1) := by decide +kernel
theorem dX0_hasPlace_13 : decode cX0_hasPlace 13 = .ok (.ifCond .lt 15, 3) := by decide +kernel
theorem dX0_hasPlace_16 : decode cX0_hasPlace 16 = .ok (.iload_n 2, 1) := by decide +kernel
theorem dX0_hasPlace_17 : decode cX0_hasPlace 17 = .ok (.aload_n 0, 1) := by decide +kernel
theorem dX0_hasPlace_18 : decode cX0_hasPlace 18 = .ok (.getfield 15, 3) := by decide +kernel
theorem dX0_hasPlace_21 : decode cX0_hasPlace 21 = .ok (.if_icmp .ge 7, 3) := by decide +kernel
theorem dX0_hasPlace_24 : decode cX0_hasPlace 24 = .ok (.iconst 1, 1) := by decide +kernel
theorem dX0_hasPlace_25 : decode cX0_hasPlace 25 = .ok (.goto 4, 3) := by decide +kernel
theorem dX0_hasPlace_28 : decode cX0_hasPlace 28 = .ok (.iconst 0, 1) := by decide +kernel
theorem dX0_hasPlace_29 : decode cX0_hasPlace 29 = .ok (.ireturn, 1) := by decide +kernel
theorem dX0_hasPlace_4 : decode cX0_hasPlace 4 = .ok (.iload_n 1, 1) := by decide +kernel
theorem dX0_hasPlace_5 : decode cX0_hasPlace 5 = .ok (.aload_n 0, 1) := by decide +kernel
theorem dX0_hasPlace_6 : decode cX0_hasPlace 6 = .ok (.getfield 9, 3) := by decide +kernel
theorem dX0_hasPlace_9 : decode cX0_hasPlace 9 = .ok (.if_icmp .ge 19, 3) := by decide +kernel
theorem dX0_walkerColumn_0 : decode cX0_walkerColumn 0 = .ok (.iload_n 1, 1) := by decide +kernel
theorem dX0_walkerColumn_1 : decode cX0_walkerColumn 1 = .ok (.ifCond .lt 20, 3) := by decide +kernel
theorem dX0_walkerColumn_12 : decode cX0_walkerColumn 12 = .ok (.aload_n 0, 1) := by decide +kernel
theorem dX0_walkerColumn_13 : decode cX0_walkerColumn 13 = .ok (.getfield 25, 3) := by decide +kernel
theorem dX0_walkerColumn_16 : decode cX0_walkerColumn 16 = .ok (.iload_n 1, 1) := by decide +kernel
theorem dX0_walkerColumn_17 : decode cX0_walkerColumn 17 = .ok (.iaload, 1) := by decide +kernel
theorem dX0_walkerColumn_18 : decode cX0_walkerColumn 18 = .ok (.ifCond .gt 5, 3) := by decide +kernel
theorem dX0_walkerColumn_21 : decode cX0_walkerColumn 21 = .ok (.iconst (-1), 1) := by decide +kernel
theorem dX0_walkerColumn_22 : decode cX0_walkerColumn 22 = .ok (.ireturn, 1) := by decide +kernel
theorem dX0_walkerColumn_23 : decode cX0_walkerColumn 23 = .ok (.aload_n 0, 1) := by decide +kernel
theorem dX0_walkerColumn_24 : decode cX0_walkerColumn 24 = .ok (.getfield 22, 3) := by decide +kernel
theorem dX0_walkerColumn_27 : decode cX0_walkerColumn 27 = .ok (.iload_n 1, 1) := by decide +kernel
theorem dX0_walkerColumn_28 : decode cX0_walkerColumn 28 = .ok (.bipush 8, 2) := by decide +kernel
theorem dX0_walkerColumn_30 : decode cX0_walkerColumn 30 = .ok (.imul, 1) := by decide +kernel
theorem dX0_walkerColumn_31 : decode cX0_walkerColumn 31 = .ok (.iload_n 2, 1) := by decide +kernel
theorem dX0_walkerColumn_32 : decode cX0_walkerColumn 32 = .ok (.aload_n 0, 1) := by decide +kernel
theorem dX0_walkerColumn_33 : decode cX0_walkerColumn 33 = .ok (.getfield 25, 3) := by decide +kernel
theorem dX0_walkerColumn_36 : decode cX0_walkerColumn 36 = .ok (.iload_n 1, 1) := by decide +kernel
theorem dX0_walkerColumn_37 : decode cX0_walkerColumn 37 = .ok (.iaload, 1) := by decide +kernel
theorem dX0_walkerColumn_38 : decode cX0_walkerColumn 38 = .ok (.invokestatic 31, 3) := by decide +kernel
theorem dX0_walkerColumn_4 : decode cX0_walkerColumn 4 = .ok (.iload_n 1, 1) := by decide +kernel
theorem dX0_walkerColumn_41 : decode cX0_walkerColumn 41 = .ok (.iadd, 1) := by decide +kernel
theorem dX0_walkerColumn_42 : decode cX0_walkerColumn 42 = .ok (.iaload, 1) := by decide +kernel
theorem dX0_walkerColumn_43 : decode cX0_walkerColumn 43 = .ok (.ireturn, 1) := by decide +kernel
theorem dX0_walkerColumn_5 : decode cX0_walkerColumn 5 = .ok (.aload_n 0, 1) := by decide +kernel
theorem dX0_walkerColumn_6 : decode cX0_walkerColumn 6 = .ok (.getfield 28, 3) := by decide +kernel
theorem dX0_walkerColumn_9 : decode cX0_walkerColumn 9 = .ok (.if_icmp .ge 12, 3) := by decide +kernel
theorem dX0_walkersIn_0 : decode cX0_walkersIn 0 = .ok (.iconst 0, 1) := by decide +kernel
theorem dX0_walkersIn_1 : decode cX0_walkersIn 1 = .ok (.istore_n 3, 1) := by decide +kernel
theorem dX0_walkersIn_11 : decode cX0_walkersIn 11 = .ok (.if_icmp .ge 23, 3) := by decide +kernel
theorem dX0_walkersIn_14 : decode cX0_walkersIn 14 = .ok (.aload_n 0, 1) := by decide +kernel
theorem dX0_walkersIn_15 : decode cX0_walkersIn 15 = .ok (.iload 4, 2) := by decide +kernel
theorem dX0_walkersIn_17 : decode cX0_walkersIn 17 = .ok (.iload_n 2, 1) := by decide +kernel
theorem dX0_walkersIn_18 : decode cX0_walkersIn 18 = .ok (.invokevirtual 37, 3) := by decide +kernel
theorem dX0_walkersIn_2 : decode cX0_walkersIn 2 = .ok (.iconst 0, 1) := by decide +kernel
theorem dX0_walkersIn_21 : decode cX0_walkersIn 21 = .ok (.iload_n 1, 1) := by decide +kernel
theorem dX0_walkersIn_22 : decode cX0_walkersIn 22 = .ok (.if_icmp .ne 6, 3) := by decide +kernel
theorem dX0_walkersIn_25 : decode cX0_walkersIn 25 = .ok (.iinc 3 1, 3) := by decide +kernel
theorem dX0_walkersIn_28 : decode cX0_walkersIn 28 = .ok (.iinc 4 1, 3) := by decide +kernel
theorem dX0_walkersIn_3 : decode cX0_walkersIn 3 = .ok (.istore 4, 2) := by decide +kernel
theorem dX0_walkersIn_31 : decode cX0_walkersIn 31 = .ok (.goto (-26), 3) := by decide +kernel
theorem dX0_walkersIn_34 : decode cX0_walkersIn 34 = .ok (.iload_n 3, 1) := by decide +kernel
theorem dX0_walkersIn_35 : decode cX0_walkersIn 35 = .ok (.ireturn, 1) := by decide +kernel
theorem dX0_walkersIn_5 : decode cX0_walkersIn 5 = .ok (.iload 4, 2) := by decide +kernel
theorem dX0_walkersIn_7 : decode cX0_walkersIn 7 = .ok (.aload_n 0, 1) := by decide +kernel
theorem dX0_walkersIn_8 : decode cX0_walkersIn 8 = .ok (.getfield 28, 3) := by decide +kernel
theorem dX10_at_0 : decode cX10_at 0 = .ok (.aload_n 0, 1) := by decide +kernel
theorem dX10_at_1 : decode cX10_at 1 = .ok (.iload_n 1, 1) := by decide +kernel
theorem dX10_at_10 : decode cX10_at 10 = .ok (.iload_n 1, 1) := by decide +kernel
theorem dX10_at_11 : decode cX10_at 11 = .ok (.iload_n 2, 1) := by decide +kernel
theorem dX10_at_12 : decode cX10_at 12 = .ok (.invokevirtual 167, 3) := by decide +kernel
theorem dX10_at_15 : decode cX10_at 15 = .ok (.ireturn, 1) := by decide +kernel
theorem dX10_at_2 : decode cX10_at 2 = .ok (.iload_n 2, 1) := by decide +kernel
theorem dX10_at_3 : decode cX10_at 3 = .ok (.invokevirtual 163, 3) := by decide +kernel
theorem dX10_at_6 : decode cX10_at 6 = .ok (.aload_n 0, 1) := by decide +kernel
theorem dX10_at_7 : decode cX10_at 7 = .ok (.getfield 57, 3) := by decide +kernel
theorem dX10_busiest_0 : decode cX10_busiest 0 = .ok (.aload_n 0, 1) := by decide +kernel
theorem dX10_busiest_1 : decode cX10_busiest 1 = .ok (.getfield 71, 3) := by decide +kernel
theorem dX10_busiest_11 : decode cX10_busiest 11 = .ok (.iconst 0, 1) := by decide +kernel
theorem dX10_busiest_12 : decode cX10_busiest 12 = .ok (.istore_n 1, 1) := by decide +kernel
theorem dX10_busiest_13 : decode cX10_busiest 13 = .ok (.iconst (-1), 1) := by decide +kernel
theorem dX10_busiest_14 : decode cX10_busiest 14 = .ok (.istore_n 2, 1) := by decide +kernel
theorem dX10_busiest_15 : decode cX10_busiest 15 = .ok (.iconst 0, 1) := by decide +kernel
theorem dX10_busiest_16 : decode cX10_busiest 16 = .ok (.istore_n 3, 1) := by decide +kernel
theorem dX10_busiest_17 : decode cX10_busiest 17 = .ok (.iload_n 3, 1) := by decide +kernel
theorem dX10_busiest_18 : decode cX10_busiest 18 = .ok (.aload_n 0, 1) := by decide +kernel
theorem dX10_busiest_19 : decode cX10_busiest 19 = .ok (.getfield 71, 3) := by decide +kernel
theorem dX10_busiest_22 : decode cX10_busiest 22 = .ok (.getfield 295, 3) := by decide +kernel
theorem dX10_busiest_25 : decode cX10_busiest 25 = .ok (.if_icmp .ge 42, 3) := by decide +kernel
theorem dX10_busiest_28 : decode cX10_busiest 28 = .ok (.aload_n 0, 1) := by decide +kernel
theorem dX10_busiest_29 : decode cX10_busiest 29 = .ok (.getfield 71, 3) := by decide +kernel
theorem dX10_busiest_32 : decode cX10_busiest 32 = .ok (.getfield 301, 3) := by decide +kernel
theorem dX10_busiest_35 : decode cX10_busiest 35 = .ok (.iload_n 3, 1) := by decide +kernel
theorem dX10_busiest_36 : decode cX10_busiest 36 = .ok (.iaload, 1) := by decide +kernel
theorem dX10_busiest_37 : decode cX10_busiest 37 = .ok (.invokestatic 304, 3) := by decide +kernel
theorem dX10_busiest_4 : decode cX10_busiest 4 = .ok (.aload_n 0, 1) := by decide +kernel
theorem dX10_busiest_40 : decode cX10_busiest 40 = .ok (.istore 4, 2) := by decide +kernel
theorem dX10_busiest_42 : decode cX10_busiest 42 = .ok (.iload 4, 2) := by decide +kernel
theorem dX10_busiest_44 : decode cX10_busiest 44 = .ok (.iload_n 1, 1) := by decide +kernel
theorem dX10_busiest_45 : decode cX10_busiest 45 = .ok (.if_icmp .le 16, 3) := by decide +kernel
theorem dX10_busiest_48 : decode cX10_busiest 48 = .ok (.iload 4, 2) := by decide +kernel
theorem dX10_busiest_5 : decode cX10_busiest 5 = .ok (.getfield 57, 3) := by decide +kernel
theorem dX10_busiest_50 : decode cX10_busiest 50 = .ok (.istore_n 1, 1) := by decide +kernel
theorem dX10_busiest_51 : decode cX10_busiest 51 = .ok (.aload_n 0, 1) := by decide +kernel
theorem dX10_busiest_52 : decode cX10_busiest 52 = .ok (.getfield 71, 3) := by decide +kernel
theorem dX10_busiest_55 : decode cX10_busiest 55 = .ok (.getfield 298, 3) := by decide +kernel
theorem dX10_busiest_58 : decode cX10_busiest 58 = .ok (.iload_n 3, 1) := by decide +kernel
theorem dX10_busiest_59 : decode cX10_busiest 59 = .ok (.iaload, 1) := by decide +kernel
theorem dX10_busiest_60 : decode cX10_busiest 60 = .ok (.istore_n 2, 1) := by decide +kernel
theorem dX10_busiest_61 : decode cX10_busiest 61 = .ok (.iinc 3 1, 3) := by decide +kernel
theorem dX10_busiest_64 : decode cX10_busiest 64 = .ok (.goto (-47), 3) := by decide +kernel
theorem dX10_busiest_67 : decode cX10_busiest 67 = .ok (.iload_n 2, 1) := by decide +kernel
theorem dX10_busiest_68 : decode cX10_busiest 68 = .ok (.ireturn, 1) := by decide +kernel
theorem dX10_busiest_8 : decode cX10_busiest 8 = .ok (.invokevirtual 289, 3) := by decide +kernel
theorem dX10_fallIn_0 : decode cX10_fallIn 0 = .ok (.iload_n 1, 1) := by decide +kernel
theorem dX10_fallIn_1 : decode cX10_fallIn 1 = .ok (.iconst 1, 1) := by decide +kernel
theorem dX10_fallIn_12 : decode cX10_fallIn 12 = .ok (.aload_n 0, 1) := by decide +kernel
theorem dX10_fallIn_13 : decode cX10_fallIn 13 = .ok (.getfield 57, 3) := by decide +kernel
theorem dX10_fallIn_16 : decode cX10_fallIn 16 = .ok (.invokevirtual 289, 3) := by decide +kernel
theorem dX10_fallIn_19 : decode cX10_fallIn 19 = .ok (.iconst 0, 1) := by decide +kernel
theorem dX10_fallIn_2 : decode cX10_fallIn 2 = .ok (.sipush 999, 3) := by decide +kernel
theorem dX10_fallIn_20 : decode cX10_fallIn 20 = .ok (.istore_n 2, 1) := by decide +kernel
theorem dX10_fallIn_21 : decode cX10_fallIn 21 = .ok (.iconst 0, 1) := by decide +kernel
theorem dX10_fallIn_22 : decode cX10_fallIn 22 = .ok (.istore_n 3, 1) := by decide +kernel
theorem dX10_fallIn_23 : decode cX10_fallIn 23 = .ok (.iload_n 3, 1) := by decide +kernel
theorem dX10_fallIn_24 : decode cX10_fallIn 24 = .ok (.aload_n 0, 1) := by decide +kernel
theorem dX10_fallIn_25 : decode cX10_fallIn 25 = .ok (.getfield 71, 3) := by decide +kernel
theorem dX10_fallIn_28 : decode cX10_fallIn 28 = .ok (.getfield 295, 3) := by decide +kernel
theorem dX10_fallIn_31 : decode cX10_fallIn 31 = .ok (.if_icmp .ge 34, 3) := by decide +kernel
theorem dX10_fallIn_34 : decode cX10_fallIn 34 = .ok (.aload_n 0, 1) := by decide +kernel
theorem dX10_fallIn_35 : decode cX10_fallIn 35 = .ok (.getfield 71, 3) := by decide +kernel
theorem dX10_fallIn_38 : decode cX10_fallIn 38 = .ok (.getfield 298, 3) := by decide +kernel
theorem dX10_fallIn_41 : decode cX10_fallIn 41 = .ok (.iload_n 3, 1) := by decide +kernel
theorem dX10_fallIn_42 : decode cX10_fallIn 42 = .ok (.iaload, 1) := by decide +kernel
theorem dX10_fallIn_43 : decode cX10_fallIn 43 = .ok (.iload_n 1, 1) := by decide +kernel
theorem dX10_fallIn_44 : decode cX10_fallIn 44 = .ok (.if_icmp .ne 15, 3) := by decide +kernel
theorem dX10_fallIn_47 : decode cX10_fallIn 47 = .ok (.iload_n 2, 1) := by decide +kernel
theorem dX10_fallIn_48 : decode cX10_fallIn 48 = .ok (.aload_n 0, 1) := by decide +kernel
theorem dX10_fallIn_49 : decode cX10_fallIn 49 = .ok (.getfield 71, 3) := by decide +kernel
theorem dX10_fallIn_5 : decode cX10_fallIn 5 = .ok (.invokestatic 170, 3) := by decide +kernel
theorem dX10_fallIn_52 : decode cX10_fallIn 52 = .ok (.getfield 301, 3) := by decide +kernel
theorem dX10_fallIn_55 : decode cX10_fallIn 55 = .ok (.iload_n 3, 1) := by decide +kernel
theorem dX10_fallIn_56 : decode cX10_fallIn 56 = .ok (.iaload, 1) := by decide +kernel
theorem dX10_fallIn_57 : decode cX10_fallIn 57 = .ok (.ior, 1) := by decide +kernel
theorem dX10_fallIn_58 : decode cX10_fallIn 58 = .ok (.istore_n 2, 1) := by decide +kernel
theorem dX10_fallIn_59 : decode cX10_fallIn 59 = .ok (.iinc 3 1, 3) := by decide +kernel
theorem dX10_fallIn_62 : decode cX10_fallIn 62 = .ok (.goto (-39), 3) := by decide +kernel
theorem dX10_fallIn_65 : decode cX10_fallIn 65 = .ok (.iload_n 2, 1) := by decide +kernel
theorem dX10_fallIn_66 : decode cX10_fallIn 66 = .ok (.ireturn, 1) := by decide +kernel
theorem dX10_fallIn_8 : decode cX10_fallIn 8 = .ok (.aload_n 0, 1) := by decide +kernel
theorem dX10_fallIn_9 : decode cX10_fallIn 9 = .ok (.getfield 71, 3) := by decide +kernel
theorem dX10_fallsBy_0 : decode cX10_fallsBy 0 = .ok (.aload_n 0, 1) := by decide +kernel
theorem dX10_fallsBy_1 : decode cX10_fallsBy 1 = .ok (.iload_n 1, 1) := by decide +kernel
theorem dX10_fallsBy_10 : decode cX10_fallsBy 10 = .ok (.bipush 60, 2) := by decide +kernel
theorem dX10_fallsBy_12 : decode cX10_fallsBy 12 = .ok (.invokestatic 170, 3) := by decide +kernel
theorem dX10_fallsBy_15 : decode cX10_fallsBy 15 = .ok (.aload_n 0, 1) := by decide +kernel
theorem dX10_fallsBy_16 : decode cX10_fallsBy 16 = .ok (.getfield 71, 3) := by decide +kernel
theorem dX10_fallsBy_19 : decode cX10_fallsBy 19 = .ok (.aload_n 0, 1) := by decide +kernel
theorem dX10_fallsBy_2 : decode cX10_fallsBy 2 = .ok (.iload_n 2, 1) := by decide +kernel
theorem dX10_fallsBy_20 : decode cX10_fallsBy 20 = .ok (.getfield 57, 3) := by decide +kernel
theorem dX10_fallsBy_23 : decode cX10_fallsBy 23 = .ok (.iload_n 1, 1) := by decide +kernel
theorem dX10_fallsBy_24 : decode cX10_fallsBy 24 = .ok (.iload_n 2, 1) := by decide +kernel
theorem dX10_fallsBy_25 : decode cX10_fallsBy 25 = .ok (.iload_n 3, 1) := by decide +kernel
theorem dX10_fallsBy_26 : decode cX10_fallsBy 26 = .ok (.iload 4, 2) := by decide +kernel
theorem dX10_fallsBy_28 : decode cX10_fallsBy 28 = .ok (.invokevirtual 324, 3) := by decide +kernel
theorem dX10_fallsBy_3 : decode cX10_fallsBy 3 = .ok (.iload_n 3, 1) := by decide +kernel
theorem dX10_fallsBy_31 : decode cX10_fallsBy 31 = .ok (.ireturn, 1) := by decide +kernel
theorem dX10_fallsBy_4 : decode cX10_fallsBy 4 = .ok (.invokevirtual 321, 3) := by decide +kernel
theorem dX10_fallsBy_7 : decode cX10_fallsBy 7 = .ok (.iload 4, 2) := by decide +kernel
theorem dX10_fallsBy_9 : decode cX10_fallsBy 9 = .ok (.iconst 0, 1) := by decide +kernel
theorem dX10_falls_0 : decode cX10_falls 0 = .ok (.aload_n 0, 1) := by decide +kernel
theorem dX10_falls_1 : decode cX10_falls 1 = .ok (.iload_n 1, 1) := by decide +kernel
theorem dX10_falls_10 : decode cX10_falls 10 = .ok (.getfield 57, 3) := by decide +kernel
theorem dX10_falls_13 : decode cX10_falls 13 = .ok (.invokevirtual 289, 3) := by decide +kernel
theorem dX10_falls_16 : decode cX10_falls 16 = .ok (.aload_n 0, 1) := by decide +kernel
theorem dX10_falls_17 : decode cX10_falls 17 = .ok (.getfield 71, 3) := by decide +kernel
theorem dX10_falls_2 : decode cX10_falls 2 = .ok (.invokevirtual 120, 3) := by decide +kernel
theorem dX10_falls_20 : decode cX10_falls 20 = .ok (.iload_n 1, 1) := by decide +kernel
theorem dX10_falls_21 : decode cX10_falls 21 = .ok (.invokevirtual 292, 3) := by decide +kernel
theorem dX10_falls_24 : decode cX10_falls 24 = .ok (.ireturn, 1) := by decide +kernel
theorem dX10_falls_5 : decode cX10_falls 5 = .ok (.aload_n 0, 1) := by decide +kernel
theorem dX10_falls_6 : decode cX10_falls 6 = .ok (.getfield 71, 3) := by decide +kernel
theorem dX10_falls_9 : decode cX10_falls 9 = .ok (.aload_n 0, 1) := by decide +kernel
theorem dX10_fault_0 : decode cX10_fault 0 = .ok (.iload_n 1, 1) := by decide +kernel
theorem dX10_fault_1 : decode cX10_fault 1 = .ok (.ifCond .ne 8, 3) := by decide +kernel
theorem dX10_fault_10 : decode cX10_fault 10 = .ok (.iconst 1, 1) := by decide +kernel
theorem dX10_fault_11 : decode cX10_fault 11 = .ok (.if_icmp .ne 10, 3) := by decide +kernel
theorem dX10_fault_14 : decode cX10_fault 14 = .ok (.aload_n 0, 1) := by decide +kernel
theorem dX10_fault_15 : decode cX10_fault 15 = .ok (.getfield 15, 3) := by decide +kernel
theorem dX10_fault_18 : decode cX10_fault 18 = .ok (.goto 4, 3) := by decide +kernel
theorem dX10_fault_21 : decode cX10_fault 21 = .ok (.iconst (-1), 1) := by decide +kernel
theorem dX10_fault_22 : decode cX10_fault 22 = .ok (.ireturn, 1) := by decide +kernel
theorem dX10_fault_4 : decode cX10_fault 4 = .ok (.aload_n 0, 1) := by decide +kernel
theorem dX10_fault_5 : decode cX10_fault 5 = .ok (.getfield 97, 3) := by decide +kernel
theorem dX10_fault_8 : decode cX10_fault 8 = .ok (.ireturn, 1) := by decide +kernel
theorem dX10_fault_9 : decode cX10_fault 9 = .ok (.iload_n 1, 1) := by decide +kernel
theorem dX10_feed_0 : decode cX10_feed 0 = .ok (.aload_n 0, 1) := by decide +kernel
theorem dX10_feed_1 : decode cX10_feed 1 = .ok (.getfield 76, 3) := by decide +kernel
theorem dX10_feed_10 : decode cX10_feed 10 = .ok (.if_icmp .le 5, 3) := by decide +kernel
theorem dX10_feed_13 : decode cX10_feed 13 = .ok (.iconst (-1), 1) := by decide +kernel
theorem dX10_feed_14 : decode cX10_feed 14 = .ok (.ireturn, 1) := by decide +kernel
theorem dX10_feed_15 : decode cX10_feed 15 = .ok (.aload_n 0, 1) := by decide +kernel
theorem dX10_feed_16 : decode cX10_feed 16 = .ok (.iload_n 1, 1) := by decide +kernel
theorem dX10_feed_17 : decode cX10_feed 17 = .ok (.invokevirtual 79, 3) := by decide +kernel
theorem dX10_feed_20 : decode cX10_feed 20 = .ok (.aload_n 0, 1) := by decide +kernel
theorem dX10_feed_21 : decode cX10_feed 21 = .ok (.iload_n 2, 1) := by decide +kernel
theorem dX10_feed_22 : decode cX10_feed 22 = .ok (.invokevirtual 79, 3) := by decide +kernel
theorem dX10_feed_25 : decode cX10_feed 25 = .ok (.aload_n 0, 1) := by decide +kernel
theorem dX10_feed_26 : decode cX10_feed 26 = .ok (.iload_n 3, 1) := by decide +kernel
theorem dX10_feed_27 : decode cX10_feed 27 = .ok (.invokevirtual 79, 3) := by decide +kernel
theorem dX10_feed_30 : decode cX10_feed 30 = .ok (.aload_n 0, 1) := by decide +kernel
theorem dX10_feed_31 : decode cX10_feed 31 = .ok (.iload 4, 2) := by decide +kernel
theorem dX10_feed_33 : decode cX10_feed 33 = .ok (.invokevirtual 79, 3) := by decide +kernel
theorem dX10_feed_36 : decode cX10_feed 36 = .ok (.aload_n 0, 1) := by decide +kernel
theorem dX10_feed_37 : decode cX10_feed 37 = .ok (.iload 5, 2) := by decide +kernel
theorem dX10_feed_39 : decode cX10_feed 39 = .ok (.invokevirtual 79, 3) := by decide +kernel
theorem dX10_feed_4 : decode cX10_feed 4 = .ok (.bipush 20, 2) := by decide +kernel
theorem dX10_feed_42 : decode cX10_feed 42 = .ok (.aload_n 0, 1) := by decide +kernel
theorem dX10_feed_43 : decode cX10_feed 43 = .ok (.getfield 76, 3) := by decide +kernel
theorem dX10_feed_46 : decode cX10_feed 46 = .ok (.ireturn, 1) := by decide +kernel
theorem dX10_feed_6 : decode cX10_feed 6 = .ok (.iadd, 1) := by decide +kernel
theorem dX10_feed_7 : decode cX10_feed 7 = .ok (.sipush 900, 3) := by decide +kernel
theorem dX10_frees_0 : decode cX10_frees 0 = .ok (.aload_n 0, 1) := by decide +kernel
theorem dX10_frees_1 : decode cX10_frees 1 = .ok (.iload_n 1, 1) := by decide +kernel
theorem dX10_frees_12 : decode cX10_frees 12 = .ok (.iload_n 1, 1) := by decide +kernel
theorem dX10_frees_13 : decode cX10_frees 13 = .ok (.iaload, 1) := by decide +kernel
theorem dX10_frees_14 : decode cX10_frees 14 = .ok (.iconst 1, 1) := by decide +kernel
theorem dX10_frees_15 : decode cX10_frees 15 = .ok (.if_icmp .eq 14, 3) := by decide +kernel
theorem dX10_frees_18 : decode cX10_frees 18 = .ok (.new 307, 3) := by decide +kernel
theorem dX10_frees_2 : decode cX10_frees 2 = .ok (.invokevirtual 120, 3) := by decide +kernel
theorem dX10_frees_21 : decode cX10_frees 21 = .ok (.dup, 1) := by decide +kernel
theorem dX10_frees_22 : decode cX10_frees 22 = .ok (.ldc_w 309, 3) := by decide +kernel
theorem dX10_frees_25 : decode cX10_frees 25 = .ok (.invokespecial 311, 3) := by decide +kernel
theorem dX10_frees_28 : decode cX10_frees 28 = .ok (.athrow, 1) := by decide +kernel
theorem dX10_frees_29 : decode cX10_frees 29 = .ok (.aload_n 0, 1) := by decide +kernel
theorem dX10_frees_30 : decode cX10_frees 30 = .ok (.getfield 57, 3) := by decide +kernel
theorem dX10_frees_33 : decode cX10_frees 33 = .ok (.aload_n 0, 1) := by decide +kernel
theorem dX10_frees_34 : decode cX10_frees 34 = .ok (.getfield 57, 3) := by decide +kernel
theorem dX10_frees_37 : decode cX10_frees 37 = .ok (.getfield 129, 3) := by decide +kernel
theorem dX10_frees_40 : decode cX10_frees 40 = .ok (.iload_n 1, 1) := by decide +kernel
theorem dX10_frees_41 : decode cX10_frees 41 = .ok (.iaload, 1) := by decide +kernel
theorem dX10_frees_42 : decode cX10_frees 42 = .ok (.iconst 1, 1) := by decide +kernel
theorem dX10_frees_43 : decode cX10_frees 43 = .ok (.iload_n 1, 1) := by decide +kernel
theorem dX10_frees_44 : decode cX10_frees 44 = .ok (.ishl, 1) := by decide +kernel
theorem dX10_frees_45 : decode cX10_frees 45 = .ok (.invokevirtual 312, 3) := by decide +kernel
theorem dX10_frees_48 : decode cX10_frees 48 = .ok (.iconst 1, 1) := by decide +kernel
theorem dX10_frees_49 : decode cX10_frees 49 = .ok (.iload_n 1, 1) := by decide +kernel
theorem dX10_frees_5 : decode cX10_frees 5 = .ok (.aload_n 0, 1) := by decide +kernel
theorem dX10_frees_50 : decode cX10_frees 50 = .ok (.ishl, 1) := by decide +kernel
theorem dX10_frees_51 : decode cX10_frees 51 = .ok (.iconst (-1), 1) := by decide +kernel
theorem dX10_frees_52 : decode cX10_frees 52 = .ok (.ixor, 1) := by decide +kernel
theorem dX10_frees_53 : decode cX10_frees 53 = .ok (.iand, 1) := by decide +kernel
theorem dX10_frees_54 : decode cX10_frees 54 = .ok (.ireturn, 1) := by decide +kernel
theorem dX10_frees_6 : decode cX10_frees 6 = .ok (.getfield 57, 3) := by decide +kernel
theorem dX10_frees_9 : decode cX10_frees 9 = .ok (.getfield 123, 3) := by decide +kernel
theorem dX10_hanging_0 : decode cX10_hanging 0 = .ok (.aload_n 0, 1) := by decide +kernel
theorem dX10_hanging_1 : decode cX10_hanging 1 = .ok (.iload_n 1, 1) := by decide +kernel
theorem dX10_hanging_11 : decode cX10_hanging 11 = .ok (.iload 4, 2) := by decide +kernel
theorem dX10_hanging_13 : decode cX10_hanging 13 = .ok (.iconst 0, 1) := by decide +kernel
theorem dX10_hanging_14 : decode cX10_hanging 14 = .ok (.sipush 999, 3) := by decide +kernel
theorem dX10_hanging_17 : decode cX10_hanging 17 = .ok (.invokestatic 170, 3) := by decide +kernel
theorem dX10_hanging_2 : decode cX10_hanging 2 = .ok (.invokevirtual 120, 3) := by decide +kernel
theorem dX10_hanging_20 : decode cX10_hanging 20 = .ok (.aload_n 0, 1) := by decide +kernel
theorem dX10_hanging_21 : decode cX10_hanging 21 = .ok (.getfield 57, 3) := by decide +kernel
theorem dX10_hanging_24 : decode cX10_hanging 24 = .ok (.getfield 113, 3) := by decide +kernel
theorem dX10_hanging_27 : decode cX10_hanging 27 = .ok (.astore 5, 2) := by decide +kernel
theorem dX10_hanging_29 : decode cX10_hanging 29 = .ok (.aload 5, 2) := by decide +kernel
theorem dX10_hanging_31 : decode cX10_hanging 31 = .ok (.iload 4, 2) := by decide +kernel
theorem dX10_hanging_33 : decode cX10_hanging 33 = .ok (.aload 5, 2) := by decide +kernel
theorem dX10_hanging_35 : decode cX10_hanging 35 = .ok (.getfield 126, 3) := by decide +kernel
theorem dX10_hanging_38 : decode cX10_hanging 38 = .ok (.iload_n 1, 1) := by decide +kernel
theorem dX10_hanging_39 : decode cX10_hanging 39 = .ok (.iaload, 1) := by decide +kernel
theorem dX10_hanging_40 : decode cX10_hanging 40 = .ok (.iload_n 2, 1) := by decide +kernel
theorem dX10_hanging_41 : decode cX10_hanging 41 = .ok (.iload_n 3, 1) := by decide +kernel
theorem dX10_hanging_42 : decode cX10_hanging 42 = .ok (.aload_n 0, 1) := by decide +kernel
theorem dX10_hanging_43 : decode cX10_hanging 43 = .ok (.getfield 57, 3) := by decide +kernel
theorem dX10_hanging_46 : decode cX10_hanging 46 = .ok (.getfield 135, 3) := by decide +kernel
theorem dX10_hanging_49 : decode cX10_hanging 49 = .ok (.aload_n 0, 1) := by decide +kernel
theorem dX10_hanging_5 : decode cX10_hanging 5 = .ok (.aload_n 0, 1) := by decide +kernel
theorem dX10_hanging_50 : decode cX10_hanging 50 = .ok (.getfield 57, 3) := by decide +kernel
theorem dX10_hanging_53 : decode cX10_hanging 53 = .ok (.iload_n 2, 1) := by decide +kernel
theorem dX10_hanging_54 : decode cX10_hanging 54 = .ok (.invokevirtual 159, 3) := by decide +kernel
theorem dX10_hanging_57 : decode cX10_hanging 57 = .ok (.invokevirtual 174, 3) := by decide +kernel
theorem dX10_hanging_6 : decode cX10_hanging 6 = .ok (.iload_n 2, 1) := by decide +kernel
theorem dX10_hanging_60 : decode cX10_hanging 60 = .ok (.ireturn, 1) := by decide +kernel
theorem dX10_hanging_7 : decode cX10_hanging 7 = .ok (.iload_n 3, 1) := by decide +kernel
theorem dX10_hanging_8 : decode cX10_hanging 8 = .ok (.invokevirtual 163, 3) := by decide +kernel
theorem dX10_heightIn_0 : decode cX10_heightIn 0 = .ok (.aload_n 0, 1) := by decide +kernel
theorem dX10_heightIn_1 : decode cX10_heightIn 1 = .ok (.iload_n 1, 1) := by decide +kernel
theorem dX10_heightIn_10 : decode cX10_heightIn 10 = .ok (.invokestatic 170, 3) := by decide +kernel
theorem dX10_heightIn_13 : decode cX10_heightIn 13 = .ok (.aload_n 0, 1) := by decide +kernel
theorem dX10_heightIn_14 : decode cX10_heightIn 14 = .ok (.getfield 71, 3) := by decide +kernel
theorem dX10_heightIn_17 : decode cX10_heightIn 17 = .ok (.getfield 240, 3) := by decide +kernel
theorem dX10_heightIn_2 : decode cX10_heightIn 2 = .ok (.invokevirtual 156, 3) := by decide +kernel
theorem dX10_heightIn_20 : decode cX10_heightIn 20 = .ok (.astore_n 3, 1) := by decide +kernel
theorem dX10_heightIn_21 : decode cX10_heightIn 21 = .ok (.aload_n 3, 1) := by decide +kernel
theorem dX10_heightIn_22 : decode cX10_heightIn 22 = .ok (.aload_n 0, 1) := by decide +kernel
theorem dX10_heightIn_23 : decode cX10_heightIn 23 = .ok (.getfield 57, 3) := by decide +kernel
theorem dX10_heightIn_26 : decode cX10_heightIn 26 = .ok (.invokevirtual 106, 3) := by decide +kernel
theorem dX10_heightIn_29 : decode cX10_heightIn 29 = .ok (.aload_n 3, 1) := by decide +kernel
theorem dX10_heightIn_30 : decode cX10_heightIn 30 = .ok (.aload_n 0, 1) := by decide +kernel
theorem dX10_heightIn_31 : decode cX10_heightIn 31 = .ok (.getfield 57, 3) := by decide +kernel
theorem dX10_heightIn_34 : decode cX10_heightIn 34 = .ok (.getfield 135, 3) := by decide +kernel
theorem dX10_heightIn_37 : decode cX10_heightIn 37 = .ok (.iload_n 2, 1) := by decide +kernel
theorem dX10_heightIn_38 : decode cX10_heightIn 38 = .ok (.iadd, 1) := by decide +kernel
theorem dX10_heightIn_39 : decode cX10_heightIn 39 = .ok (.invokevirtual 224, 3) := by decide +kernel
theorem dX10_heightIn_42 : decode cX10_heightIn 42 = .ok (.pop, 1) := by decide +kernel
theorem dX10_heightIn_43 : decode cX10_heightIn 43 = .ok (.aload_n 3, 1) := by decide +kernel
theorem dX10_heightIn_44 : decode cX10_heightIn 44 = .ok (.iload_n 1, 1) := by decide +kernel
theorem dX10_heightIn_45 : decode cX10_heightIn 45 = .ok (.invokevirtual 159, 3) := by decide +kernel
theorem dX10_heightIn_48 : decode cX10_heightIn 48 = .ok (.ireturn, 1) := by decide +kernel
theorem dX10_heightIn_5 : decode cX10_heightIn 5 = .ok (.iload_n 2, 1) := by decide +kernel
theorem dX10_heightIn_6 : decode cX10_heightIn 6 = .ok (.iconst 0, 1) := by decide +kernel
theorem dX10_heightIn_7 : decode cX10_heightIn 7 = .ok (.sipush 999, 3) := by decide +kernel
theorem dX10_height_0 : decode cX10_height 0 = .ok (.aload_n 0, 1) := by decide +kernel
theorem dX10_height_1 : decode cX10_height 1 = .ok (.iload_n 1, 1) := by decide +kernel
theorem dX10_height_10 : decode cX10_height 10 = .ok (.invokevirtual 159, 3) := by decide +kernel
theorem dX10_height_13 : decode cX10_height 13 = .ok (.ireturn, 1) := by decide +kernel
theorem dX10_height_2 : decode cX10_height 2 = .ok (.invokevirtual 156, 3) := by decide +kernel
theorem dX10_height_5 : decode cX10_height 5 = .ok (.aload_n 0, 1) := by decide +kernel
theorem dX10_height_6 : decode cX10_height 6 = .ok (.getfield 57, 3) := by decide +kernel
theorem dX10_height_9 : decode cX10_height 9 = .ok (.iload_n 1, 1) := by decide +kernel
theorem dX10_hurtIn_0 : decode cX10_hurtIn 0 = .ok (.aload_n 0, 1) := by decide +kernel
theorem dX10_hurtIn_1 : decode cX10_hurtIn 1 = .ok (.iload_n 1, 1) := by decide +kernel
theorem dX10_hurtIn_10 : decode cX10_hurtIn 10 = .ok (.getfield 57, 3) := by decide +kernel
theorem dX10_hurtIn_13 : decode cX10_hurtIn 13 = .ok (.invokevirtual 289, 3) := by decide +kernel
theorem dX10_hurtIn_16 : decode cX10_hurtIn 16 = .ok (.iconst 0, 1) := by decide +kernel
theorem dX10_hurtIn_17 : decode cX10_hurtIn 17 = .ok (.istore_n 2, 1) := by decide +kernel
theorem dX10_hurtIn_18 : decode cX10_hurtIn 18 = .ok (.iload_n 2, 1) := by decide +kernel
theorem dX10_hurtIn_19 : decode cX10_hurtIn 19 = .ok (.aload_n 0, 1) := by decide +kernel
theorem dX10_hurtIn_2 : decode cX10_hurtIn 2 = .ok (.invokevirtual 143, 3) := by decide +kernel
theorem dX10_hurtIn_20 : decode cX10_hurtIn 20 = .ok (.getfield 71, 3) := by decide +kernel
theorem dX10_hurtIn_23 : decode cX10_hurtIn 23 = .ok (.getfield 295, 3) := by decide +kernel
theorem dX10_hurtIn_26 : decode cX10_hurtIn 26 = .ok (.if_icmp .ge 60, 3) := by decide +kernel
theorem dX10_hurtIn_29 : decode cX10_hurtIn 29 = .ok (.aload_n 0, 1) := by decide +kernel
theorem dX10_hurtIn_30 : decode cX10_hurtIn 30 = .ok (.getfield 57, 3) := by decide +kernel
theorem dX10_hurtIn_33 : decode cX10_hurtIn 33 = .ok (.getfield 135, 3) := by decide +kernel
theorem dX10_hurtIn_36 : decode cX10_hurtIn 36 = .ok (.aload_n 0, 1) := by decide +kernel
theorem dX10_hurtIn_37 : decode cX10_hurtIn 37 = .ok (.getfield 71, 3) := by decide +kernel
theorem dX10_hurtIn_40 : decode cX10_hurtIn 40 = .ok (.getfield 298, 3) := by decide +kernel
theorem dX10_hurtIn_43 : decode cX10_hurtIn 43 = .ok (.iload_n 2, 1) := by decide +kernel
theorem dX10_hurtIn_44 : decode cX10_hurtIn 44 = .ok (.iaload, 1) := by decide +kernel
theorem dX10_hurtIn_45 : decode cX10_hurtIn 45 = .ok (.iadd, 1) := by decide +kernel
theorem dX10_hurtIn_46 : decode cX10_hurtIn 46 = .ok (.istore_n 3, 1) := by decide +kernel
theorem dX10_hurtIn_47 : decode cX10_hurtIn 47 = .ok (.aload_n 0, 1) := by decide +kernel
theorem dX10_hurtIn_48 : decode cX10_hurtIn 48 = .ok (.getfield 71, 3) := by decide +kernel
theorem dX10_hurtIn_5 : decode cX10_hurtIn 5 = .ok (.aload_n 0, 1) := by decide +kernel
theorem dX10_hurtIn_51 : decode cX10_hurtIn 51 = .ok (.iload_n 2, 1) := by decide +kernel
theorem dX10_hurtIn_52 : decode cX10_hurtIn 52 = .ok (.aload_n 0, 1) := by decide +kernel
theorem dX10_hurtIn_53 : decode cX10_hurtIn 53 = .ok (.getfield 57, 3) := by decide +kernel
theorem dX10_hurtIn_56 : decode cX10_hurtIn 56 = .ok (.getfield 113, 3) := by decide +kernel
theorem dX10_hurtIn_59 : decode cX10_hurtIn 59 = .ok (.iload_n 1, 1) := by decide +kernel
theorem dX10_hurtIn_6 : decode cX10_hurtIn 6 = .ok (.getfield 71, 3) := by decide +kernel
theorem dX10_hurtIn_60 : decode cX10_hurtIn 60 = .ok (.iload_n 3, 1) := by decide +kernel
theorem dX10_hurtIn_61 : decode cX10_hurtIn 61 = .ok (.invokevirtual 146, 3) := by decide +kernel
theorem dX10_hurtIn_64 : decode cX10_hurtIn 64 = .ok (.invokevirtual 315, 3) := by decide +kernel
theorem dX10_hurtIn_67 : decode cX10_hurtIn 67 = .ok (.ifCond .le 13, 3) := by decide +kernel
theorem dX10_hurtIn_70 : decode cX10_hurtIn 70 = .ok (.aload_n 0, 1) := by decide +kernel
theorem dX10_hurtIn_71 : decode cX10_hurtIn 71 = .ok (.getfield 71, 3) := by decide +kernel
theorem dX10_hurtIn_74 : decode cX10_hurtIn 74 = .ok (.getfield 298, 3) := by decide +kernel
theorem dX10_hurtIn_77 : decode cX10_hurtIn 77 = .ok (.iload_n 2, 1) := by decide +kernel
theorem dX10_hurtIn_78 : decode cX10_hurtIn 78 = .ok (.iaload, 1) := by decide +kernel
theorem dX10_hurtIn_79 : decode cX10_hurtIn 79 = .ok (.ireturn, 1) := by decide +kernel
theorem dX10_hurtIn_80 : decode cX10_hurtIn 80 = .ok (.iinc 2 1, 3) := by decide +kernel
theorem dX10_hurtIn_83 : decode cX10_hurtIn 83 = .ok (.goto (-65), 3) := by decide +kernel
theorem dX10_hurtIn_86 : decode cX10_hurtIn 86 = .ok (.iconst (-1), 1) := by decide +kernel
theorem dX10_hurtIn_87 : decode cX10_hurtIn 87 = .ok (.ireturn, 1) := by decide +kernel
theorem dX10_hurtIn_9 : decode cX10_hurtIn 9 = .ok (.aload_n 0, 1) := by decide +kernel
theorem dX10_hurts_0 : decode cX10_hurts 0 = .ok (.aload_n 0, 1) := by decide +kernel
theorem dX10_hurts_1 : decode cX10_hurts 1 = .ok (.iload_n 1, 1) := by decide +kernel
theorem dX10_hurts_10 : decode cX10_hurts 10 = .ok (.getfield 57, 3) := by decide +kernel
theorem dX10_hurts_13 : decode cX10_hurts 13 = .ok (.invokevirtual 289, 3) := by decide +kernel
theorem dX10_hurts_16 : decode cX10_hurts 16 = .ok (.aload_n 0, 1) := by decide +kernel
theorem dX10_hurts_17 : decode cX10_hurts 17 = .ok (.getfield 71, 3) := by decide +kernel
theorem dX10_hurts_2 : decode cX10_hurts 2 = .ok (.invokevirtual 143, 3) := by decide +kernel
theorem dX10_hurts_20 : decode cX10_hurts 20 = .ok (.iload_n 1, 1) := by decide +kernel
theorem dX10_hurts_21 : decode cX10_hurts 21 = .ok (.iconst 0, 1) := by decide +kernel
theorem dX10_hurts_22 : decode cX10_hurts 22 = .ok (.iconst (-1), 1) := by decide +kernel
theorem dX10_hurts_23 : decode cX10_hurts 23 = .ok (.invokevirtual 318, 3) := by decide +kernel
theorem dX10_hurts_26 : decode cX10_hurts 26 = .ok (.ireturn, 1) := by decide +kernel
theorem dX10_hurts_5 : decode cX10_hurts 5 = .ok (.aload_n 0, 1) := by decide +kernel
theorem dX10_hurts_6 : decode cX10_hurts 6 = .ok (.getfield 71, 3) := by decide +kernel
theorem dX10_hurts_9 : decode cX10_hurts 9 = .ok (.aload_n 0, 1) := by decide +kernel
theorem dX10_lands_0 : decode cX10_lands 0 = .ok (.aload_n 0, 1) := by decide +kernel
theorem dX10_lands_1 : decode cX10_lands 1 = .ok (.iload_n 1, 1) := by decide +kernel
theorem dX10_lands_12 : decode cX10_lands 12 = .ok (.iload_n 1, 1) := by decide +kernel
theorem dX10_lands_13 : decode cX10_lands 13 = .ok (.iaload, 1) := by decide +kernel
theorem dX10_lands_14 : decode cX10_lands 14 = .ok (.iconst 1, 1) := by decide +kernel
theorem dX10_lands_15 : decode cX10_lands 15 = .ok (.if_icmp .eq 5, 3) := by decide +kernel
theorem dX10_lands_18 : decode cX10_lands 18 = .ok (.iconst (-1), 1) := by decide +kernel
theorem dX10_lands_19 : decode cX10_lands 19 = .ok (.ireturn, 1) := by decide +kernel
theorem dX10_lands_2 : decode cX10_lands 2 = .ok (.invokevirtual 120, 3) := by decide +kernel
theorem dX10_lands_20 : decode cX10_lands 20 = .ok (.aload_n 0, 1) := by decide +kernel
theorem dX10_lands_21 : decode cX10_lands 21 = .ok (.getfield 71, 3) := by decide +kernel
theorem dX10_lands_24 : decode cX10_lands 24 = .ok (.aload_n 0, 1) := by decide +kernel
theorem dX10_lands_25 : decode cX10_lands 25 = .ok (.getfield 57, 3) := by decide +kernel
theorem dX10_lands_28 : decode cX10_lands 28 = .ok (.invokevirtual 289, 3) := by decide +kernel
theorem dX10_lands_31 : decode cX10_lands 31 = .ok (.aload_n 0, 1) := by decide +kernel
theorem dX10_lands_32 : decode cX10_lands 32 = .ok (.getfield 71, 3) := by decide +kernel
theorem dX10_lands_35 : decode cX10_lands 35 = .ok (.getfield 240, 3) := by decide +kernel
theorem dX10_lands_38 : decode cX10_lands 38 = .ok (.getfield 132, 3) := by decide +kernel
theorem dX10_lands_41 : decode cX10_lands 41 = .ok (.iload_n 1, 1) := by decide +kernel
theorem dX10_lands_42 : decode cX10_lands 42 = .ok (.iaload, 1) := by decide +kernel
theorem dX10_lands_43 : decode cX10_lands 43 = .ok (.ireturn, 1) := by decide +kernel
theorem dX10_lands_5 : decode cX10_lands 5 = .ok (.aload_n 0, 1) := by decide +kernel
theorem dX10_lands_6 : decode cX10_lands 6 = .ok (.getfield 57, 3) := by decide +kernel
theorem dX10_lands_9 : decode cX10_lands 9 = .ok (.getfield 123, 3) := by decide +kernel
theorem dX10_later_0 : decode cX10_later 0 = .ok (.aload_n 0, 1) := by decide +kernel
theorem dX10_later_1 : decode cX10_later 1 = .ok (.iload_n 1, 1) := by decide +kernel
theorem dX10_later_12 : decode cX10_later 12 = .ok (.aload_n 0, 1) := by decide +kernel
theorem dX10_later_13 : decode cX10_later 13 = .ok (.getfield 71, 3) := by decide +kernel
theorem dX10_later_16 : decode cX10_later 16 = .ok (.aload_n 0, 1) := by decide +kernel
theorem dX10_later_17 : decode cX10_later 17 = .ok (.getfield 57, 3) := by decide +kernel
theorem dX10_later_2 : decode cX10_later 2 = .ok (.invokevirtual 143, 3) := by decide +kernel
theorem dX10_later_20 : decode cX10_later 20 = .ok (.invokevirtual 289, 3) := by decide +kernel
theorem dX10_later_23 : decode cX10_later 23 = .ok (.aload_n 0, 1) := by decide +kernel
theorem dX10_later_24 : decode cX10_later 24 = .ok (.getfield 71, 3) := by decide +kernel
theorem dX10_later_27 : decode cX10_later 27 = .ok (.iload_n 1, 1) := by decide +kernel
theorem dX10_later_28 : decode cX10_later 28 = .ok (.iload_n 2, 1) := by decide +kernel
theorem dX10_later_29 : decode cX10_later 29 = .ok (.iconst (-1), 1) := by decide +kernel
theorem dX10_later_30 : decode cX10_later 30 = .ok (.invokevirtual 318, 3) := by decide +kernel
theorem dX10_later_33 : decode cX10_later 33 = .ok (.ireturn, 1) := by decide +kernel
theorem dX10_later_5 : decode cX10_later 5 = .ok (.iload_n 2, 1) := by decide +kernel
theorem dX10_later_6 : decode cX10_later 6 = .ok (.iconst 0, 1) := by decide +kernel
theorem dX10_later_7 : decode cX10_later 7 = .ok (.bipush 8, 2) := by decide +kernel
theorem dX10_later_9 : decode cX10_later 9 = .ok (.invokestatic 170, 3) := by decide +kernel
theorem dX10_needColumn_0 : decode cX10_needColumn 0 = .ok (.iload_n 1, 1) := by decide +kernel
theorem dX10_needColumn_1 : decode cX10_needColumn 1 = .ok (.ifCond .lt 17, 3) := by decide +kernel
theorem dX10_needColumn_12 : decode cX10_needColumn 12 = .ok (.getfield 191, 3) := by decide +kernel
theorem dX10_needColumn_15 : decode cX10_needColumn 15 = .ok (.if_icmp .lt 13, 3) := by decide +kernel
theorem dX10_needColumn_18 : decode cX10_needColumn 18 = .ok (.new 181, 3) := by decide +kernel
theorem dX10_needColumn_21 : decode cX10_needColumn 21 = .ok (.dup, 1) := by decide +kernel
theorem dX10_needColumn_22 : decode cX10_needColumn 22 = .ok (.ldc 194, 2) := by decide +kernel
theorem dX10_needColumn_24 : decode cX10_needColumn 24 = .ok (.invokespecial 185, 3) := by decide +kernel
theorem dX10_needColumn_27 : decode cX10_needColumn 27 = .ok (.athrow, 1) := by decide +kernel
theorem dX10_needColumn_28 : decode cX10_needColumn 28 = .ok (.return_, 1) := by decide +kernel
theorem dX10_needColumn_4 : decode cX10_needColumn 4 = .ok (.iload_n 1, 1) := by decide +kernel
theorem dX10_needColumn_5 : decode cX10_needColumn 5 = .ok (.aload_n 0, 1) := by decide +kernel
theorem dX10_needColumn_6 : decode cX10_needColumn 6 = .ok (.getfield 57, 3) := by decide +kernel
theorem dX10_needColumn_9 : decode cX10_needColumn 9 = .ok (.getfield 113, 3) := by decide +kernel
theorem dX10_needHeldAndPlace_0 : decode cX10_needHeldAndPlace 0 = .ok (.aload_n 0, 1) := by decide +kernel
theorem dX10_needHeldAndPlace_1 : decode cX10_needHeldAndPlace 1 = .ok (.iload_n 1, 1) := by decide +kernel
theorem dX10_needHeldAndPlace_11 : decode cX10_needHeldAndPlace 11 = .ok (.aload_n 0, 1) := by decide +kernel
theorem dX10_needHeldAndPlace_12 : decode cX10_needHeldAndPlace 12 = .ok (.iload_n 1, 1) := by decide +kernel
theorem dX10_needHeldAndPlace_13 : decode cX10_needHeldAndPlace 13 = .ok (.invokevirtual 331, 3) := by decide +kernel
theorem dX10_needHeldAndPlace_16 : decode cX10_needHeldAndPlace 16 = .ok (.return_, 1) := by decide +kernel
theorem dX10_needHeldAndPlace_2 : decode cX10_needHeldAndPlace 2 = .ok (.invokevirtual 120, 3) := by decide +kernel
theorem dX10_needHeldAndPlace_5 : decode cX10_needHeldAndPlace 5 = .ok (.aload_n 0, 1) := by decide +kernel
theorem dX10_needHeldAndPlace_6 : decode cX10_needHeldAndPlace 6 = .ok (.iload_n 2, 1) := by decide +kernel
theorem dX10_needHeldAndPlace_7 : decode cX10_needHeldAndPlace 7 = .ok (.iload_n 3, 1) := by decide +kernel
theorem dX10_needHeldAndPlace_8 : decode cX10_needHeldAndPlace 8 = .ok (.invokevirtual 163, 3) := by decide +kernel
theorem dX10_needHeld_0 : decode cX10_needHeld 0 = .ok (.aload_n 0, 1) := by decide +kernel
theorem dX10_needHeld_1 : decode cX10_needHeld 1 = .ok (.getfield 57, 3) := by decide +kernel
theorem dX10_needHeld_12 : decode cX10_needHeld 12 = .ok (.new 307, 3) := by decide +kernel
theorem dX10_needHeld_15 : decode cX10_needHeld 15 = .ok (.dup, 1) := by decide +kernel
theorem dX10_needHeld_16 : decode cX10_needHeld 16 = .ok (.ldc_w 344, 3) := by decide +kernel
theorem dX10_needHeld_19 : decode cX10_needHeld 19 = .ok (.invokespecial 311, 3) := by decide +kernel
theorem dX10_needHeld_22 : decode cX10_needHeld 22 = .ok (.athrow, 1) := by decide +kernel
theorem dX10_needHeld_23 : decode cX10_needHeld 23 = .ok (.return_, 1) := by decide +kernel
theorem dX10_needHeld_4 : decode cX10_needHeld 4 = .ok (.getfield 123, 3) := by decide +kernel
theorem dX10_needHeld_7 : decode cX10_needHeld 7 = .ok (.iload_n 1, 1) := by decide +kernel
theorem dX10_needHeld_8 : decode cX10_needHeld 8 = .ok (.iaload, 1) := by decide +kernel
theorem dX10_needHeld_9 : decode cX10_needHeld 9 = .ok (.ifCond .eq 14, 3) := by decide +kernel
theorem dX10_needPlace_0 : decode cX10_needPlace 0 = .ok (.aload_n 0, 1) := by decide +kernel
theorem dX10_needPlace_1 : decode cX10_needPlace 1 = .ok (.getfield 57, 3) := by decide +kernel
theorem dX10_needPlace_12 : decode cX10_needPlace 12 = .ok (.ifCond .ne 13, 3) := by decide +kernel
theorem dX10_needPlace_15 : decode cX10_needPlace 15 = .ok (.new 181, 3) := by decide +kernel
theorem dX10_needPlace_18 : decode cX10_needPlace 18 = .ok (.dup, 1) := by decide +kernel
theorem dX10_needPlace_19 : decode cX10_needPlace 19 = .ok (.ldc 200, 2) := by decide +kernel
theorem dX10_needPlace_21 : decode cX10_needPlace 21 = .ok (.invokespecial 185, 3) := by decide +kernel
theorem dX10_needPlace_24 : decode cX10_needPlace 24 = .ok (.athrow, 1) := by decide +kernel
theorem dX10_needPlace_25 : decode cX10_needPlace 25 = .ok (.return_, 1) := by decide +kernel
theorem dX10_needPlace_4 : decode cX10_needPlace 4 = .ok (.getfield 113, 3) := by decide +kernel
theorem dX10_needPlace_7 : decode cX10_needPlace 7 = .ok (.iload_n 1, 1) := by decide +kernel
theorem dX10_needPlace_8 : decode cX10_needPlace 8 = .ok (.iload_n 2, 1) := by decide +kernel
theorem dX10_needPlace_9 : decode cX10_needPlace 9 = .ok (.invokevirtual 196, 3) := by decide +kernel
theorem dX10_needThing_0 : decode cX10_needThing 0 = .ok (.iload_n 1, 1) := by decide +kernel
theorem dX10_needThing_1 : decode cX10_needThing 1 = .ok (.ifCond .lt 17, 3) := by decide +kernel
theorem dX10_needThing_12 : decode cX10_needThing 12 = .ok (.getfield 178, 3) := by decide +kernel
theorem dX10_needThing_15 : decode cX10_needThing 15 = .ok (.if_icmp .lt 13, 3) := by decide +kernel
theorem dX10_needThing_18 : decode cX10_needThing 18 = .ok (.new 181, 3) := by decide +kernel
theorem dX10_needThing_21 : decode cX10_needThing 21 = .ok (.dup, 1) := by decide +kernel
theorem dX10_needThing_22 : decode cX10_needThing 22 = .ok (.ldc 183, 2) := by decide +kernel
theorem dX10_needThing_24 : decode cX10_needThing 24 = .ok (.invokespecial 185, 3) := by decide +kernel
theorem dX10_needThing_27 : decode cX10_needThing 27 = .ok (.athrow, 1) := by decide +kernel
theorem dX10_needThing_28 : decode cX10_needThing 28 = .ok (.return_, 1) := by decide +kernel
theorem dX10_needThing_4 : decode cX10_needThing 4 = .ok (.iload_n 1, 1) := by decide +kernel
theorem dX10_needThing_5 : decode cX10_needThing 5 = .ok (.aload_n 0, 1) := by decide +kernel
theorem dX10_needThing_6 : decode cX10_needThing 6 = .ok (.getfield 57, 3) := by decide +kernel
theorem dX10_needThing_9 : decode cX10_needThing 9 = .ok (.getfield 113, 3) := by decide +kernel
theorem dX10_needWalker_0 : decode cX10_needWalker 0 = .ok (.iload_n 1, 1) := by decide +kernel
theorem dX10_needWalker_1 : decode cX10_needWalker 1 = .ok (.ifCond .lt 17, 3) := by decide +kernel
theorem dX10_needWalker_12 : decode cX10_needWalker 12 = .ok (.getfield 186, 3) := by decide +kernel
theorem dX10_needWalker_15 : decode cX10_needWalker 15 = .ok (.if_icmp .lt 13, 3) := by decide +kernel
theorem dX10_needWalker_18 : decode cX10_needWalker 18 = .ok (.new 181, 3) := by decide +kernel
theorem dX10_needWalker_21 : decode cX10_needWalker 21 = .ok (.dup, 1) := by decide +kernel
theorem dX10_needWalker_22 : decode cX10_needWalker 22 = .ok (.ldc 189, 2) := by decide +kernel
theorem dX10_needWalker_24 : decode cX10_needWalker 24 = .ok (.invokespecial 185, 3) := by decide +kernel
theorem dX10_needWalker_27 : decode cX10_needWalker 27 = .ok (.athrow, 1) := by decide +kernel
theorem dX10_needWalker_28 : decode cX10_needWalker 28 = .ok (.return_, 1) := by decide +kernel
theorem dX10_needWalker_4 : decode cX10_needWalker 4 = .ok (.iload_n 1, 1) := by decide +kernel
theorem dX10_needWalker_5 : decode cX10_needWalker 5 = .ok (.aload_n 0, 1) := by decide +kernel
theorem dX10_needWalker_6 : decode cX10_needWalker 6 = .ok (.getfield 57, 3) := by decide +kernel
theorem dX10_needWalker_9 : decode cX10_needWalker 9 = .ok (.getfield 113, 3) := by decide +kernel
theorem dX10_needWithin_0 : decode cX10_needWithin 0 = .ok (.iload_n 0, 1) := by decide +kernel
theorem dX10_needWithin_1 : decode cX10_needWithin 1 = .ok (.iload_n 1, 1) := by decide +kernel
theorem dX10_needWithin_10 : decode cX10_needWithin 10 = .ok (.new 83, 3) := by decide +kernel
theorem dX10_needWithin_13 : decode cX10_needWithin 13 = .ok (.dup, 1) := by decide +kernel
theorem dX10_needWithin_14 : decode cX10_needWithin 14 = .ok (.ldc 202, 2) := by decide +kernel
theorem dX10_needWithin_16 : decode cX10_needWithin 16 = .ok (.invokespecial 87, 3) := by decide +kernel
theorem dX10_needWithin_19 : decode cX10_needWithin 19 = .ok (.athrow, 1) := by decide +kernel
theorem dX10_needWithin_2 : decode cX10_needWithin 2 = .ok (.if_icmp .lt 8, 3) := by decide +kernel
theorem dX10_needWithin_20 : decode cX10_needWithin 20 = .ok (.return_, 1) := by decide +kernel
theorem dX10_needWithin_5 : decode cX10_needWithin 5 = .ok (.iload_n 0, 1) := by decide +kernel
theorem dX10_needWithin_6 : decode cX10_needWithin 6 = .ok (.iload_n 2, 1) := by decide +kernel
theorem dX10_needWithin_7 : decode cX10_needWithin 7 = .ok (.if_icmp .le 13, 3) := by decide +kernel
theorem dX10_next_0 : decode cX10_next 0 = .ok (.aload_n 0, 1) := by decide +kernel
theorem dX10_next_1 : decode cX10_next 1 = .ok (.getfield 71, 3) := by decide +kernel
theorem dX10_next_11 : decode cX10_next 11 = .ok (.aload_n 0, 1) := by decide +kernel
theorem dX10_next_12 : decode cX10_next 12 = .ok (.getfield 71, 3) := by decide +kernel
theorem dX10_next_15 : decode cX10_next 15 = .ok (.getfield 295, 3) := by decide +kernel
theorem dX10_next_18 : decode cX10_next 18 = .ok (.ifCond .le 15, 3) := by decide +kernel
theorem dX10_next_21 : decode cX10_next 21 = .ok (.aload_n 0, 1) := by decide +kernel
theorem dX10_next_22 : decode cX10_next 22 = .ok (.getfield 71, 3) := by decide +kernel
theorem dX10_next_25 : decode cX10_next 25 = .ok (.getfield 298, 3) := by decide +kernel
theorem dX10_next_28 : decode cX10_next 28 = .ok (.iconst 0, 1) := by decide +kernel
theorem dX10_next_29 : decode cX10_next 29 = .ok (.iaload, 1) := by decide +kernel
theorem dX10_next_30 : decode cX10_next 30 = .ok (.goto 4, 3) := by decide +kernel
theorem dX10_next_33 : decode cX10_next 33 = .ok (.iconst (-1), 1) := by decide +kernel
theorem dX10_next_34 : decode cX10_next 34 = .ok (.ireturn, 1) := by decide +kernel
theorem dX10_next_4 : decode cX10_next 4 = .ok (.aload_n 0, 1) := by decide +kernel
theorem dX10_next_5 : decode cX10_next 5 = .ok (.getfield 57, 3) := by decide +kernel
theorem dX10_next_8 : decode cX10_next 8 = .ok (.invokevirtual 289, 3) := by decide +kernel
theorem dX10_putBytes_0 : decode cX10_putBytes 0 = .ok (.bipush 24, 2) := by decide +kernel
theorem dX10_putBytes_11 : decode cX10_putBytes 11 = .ok (.sipush 900, 3) := by decide +kernel
theorem dX10_putBytes_14 : decode cX10_putBytes 14 = .ok (.if_icmp .ge 32, 3) := by decide +kernel
theorem dX10_putBytes_17 : decode cX10_putBytes 17 = .ok (.aload_n 0, 1) := by decide +kernel
theorem dX10_putBytes_18 : decode cX10_putBytes 18 = .ok (.getfield 11, 3) := by decide +kernel
theorem dX10_putBytes_2 : decode cX10_putBytes 2 = .ok (.istore_n 2, 1) := by decide +kernel
theorem dX10_putBytes_21 : decode cX10_putBytes 21 = .ok (.aload_n 0, 1) := by decide +kernel
theorem dX10_putBytes_22 : decode cX10_putBytes 22 = .ok (.getfield 76, 3) := by decide +kernel
theorem dX10_putBytes_25 : decode cX10_putBytes 25 = .ok (.iload_n 1, 1) := by decide +kernel
theorem dX10_putBytes_26 : decode cX10_putBytes 26 = .ok (.iload_n 2, 1) := by decide +kernel
theorem dX10_putBytes_27 : decode cX10_putBytes 27 = .ok (.iushr, 1) := by decide +kernel
theorem dX10_putBytes_28 : decode cX10_putBytes 28 = .ok (.i2b, 1) := by decide +kernel
theorem dX10_putBytes_29 : decode cX10_putBytes 29 = .ok (.bastore, 1) := by decide +kernel
theorem dX10_putBytes_3 : decode cX10_putBytes 3 = .ok (.iload_n 2, 1) := by decide +kernel
theorem dX10_putBytes_30 : decode cX10_putBytes 30 = .ok (.aload_n 0, 1) := by decide +kernel
theorem dX10_putBytes_31 : decode cX10_putBytes 31 = .ok (.dup, 1) := by decide +kernel
theorem dX10_putBytes_32 : decode cX10_putBytes 32 = .ok (.getfield 76, 3) := by decide +kernel
theorem dX10_putBytes_35 : decode cX10_putBytes 35 = .ok (.iconst 1, 1) := by decide +kernel
theorem dX10_putBytes_36 : decode cX10_putBytes 36 = .ok (.iadd, 1) := by decide +kernel
theorem dX10_putBytes_37 : decode cX10_putBytes 37 = .ok (.putfield 76, 3) := by decide +kernel
theorem dX10_putBytes_4 : decode cX10_putBytes 4 = .ok (.ifCond .lt 42, 3) := by decide +kernel
theorem dX10_putBytes_40 : decode cX10_putBytes 40 = .ok (.iinc 2 (-8), 3) := by decide +kernel
theorem dX10_putBytes_43 : decode cX10_putBytes 43 = .ok (.goto (-40), 3) := by decide +kernel
theorem dX10_putBytes_46 : decode cX10_putBytes 46 = .ok (.return_, 1) := by decide +kernel
theorem dX10_putBytes_7 : decode cX10_putBytes 7 = .ok (.aload_n 0, 1) := by decide +kernel
theorem dX10_putBytes_8 : decode cX10_putBytes 8 = .ok (.getfield 76, 3) := by decide +kernel
theorem dX10_shelter_0 : decode cX10_shelter 0 = .ok (.aload_n 0, 1) := by decide +kernel
theorem dX10_shelter_1 : decode cX10_shelter 1 = .ok (.getfield 71, 3) := by decide +kernel
theorem dX10_shelter_102 : decode cX10_shelter 102 = .ok (.goto (-85), 3) := by decide +kernel
theorem dX10_shelter_105 : decode cX10_shelter 105 = .ok (.iload_n 1, 1) := by decide +kernel
theorem dX10_shelter_106 : decode cX10_shelter 106 = .ok (.ireturn, 1) := by decide +kernel
theorem dX10_shelter_11 : decode cX10_shelter 11 = .ok (.iconst 0, 1) := by decide +kernel
theorem dX10_shelter_12 : decode cX10_shelter 12 = .ok (.istore_n 1, 1) := by decide +kernel
theorem dX10_shelter_13 : decode cX10_shelter 13 = .ok (.iconst (-1), 1) := by decide +kernel
theorem dX10_shelter_14 : decode cX10_shelter 14 = .ok (.istore_n 2, 1) := by decide +kernel
theorem dX10_shelter_15 : decode cX10_shelter 15 = .ok (.iconst 0, 1) := by decide +kernel
theorem dX10_shelter_16 : decode cX10_shelter 16 = .ok (.istore_n 3, 1) := by decide +kernel
theorem dX10_shelter_17 : decode cX10_shelter 17 = .ok (.iload_n 3, 1) := by decide +kernel
theorem dX10_shelter_18 : decode cX10_shelter 18 = .ok (.aload_n 0, 1) := by decide +kernel
theorem dX10_shelter_19 : decode cX10_shelter 19 = .ok (.getfield 57, 3) := by decide +kernel
theorem dX10_shelter_22 : decode cX10_shelter 22 = .ok (.getfield 113, 3) := by decide +kernel
theorem dX10_shelter_25 : decode cX10_shelter 25 = .ok (.getfield 191, 3) := by decide +kernel
theorem dX10_shelter_28 : decode cX10_shelter 28 = .ok (.if_icmp .ge 77, 3) := by decide +kernel
theorem dX10_shelter_31 : decode cX10_shelter 31 = .ok (.bipush 60, 2) := by decide +kernel
theorem dX10_shelter_33 : decode cX10_shelter 33 = .ok (.istore 4, 2) := by decide +kernel
theorem dX10_shelter_35 : decode cX10_shelter 35 = .ok (.iconst 0, 1) := by decide +kernel
theorem dX10_shelter_36 : decode cX10_shelter 36 = .ok (.istore 5, 2) := by decide +kernel
theorem dX10_shelter_38 : decode cX10_shelter 38 = .ok (.iload 5, 2) := by decide +kernel
theorem dX10_shelter_4 : decode cX10_shelter 4 = .ok (.aload_n 0, 1) := by decide +kernel
theorem dX10_shelter_40 : decode cX10_shelter 40 = .ok (.aload_n 0, 1) := by decide +kernel
theorem dX10_shelter_41 : decode cX10_shelter 41 = .ok (.getfield 71, 3) := by decide +kernel
theorem dX10_shelter_44 : decode cX10_shelter 44 = .ok (.getfield 295, 3) := by decide +kernel
theorem dX10_shelter_47 : decode cX10_shelter 47 = .ok (.if_icmp .ge 41, 3) := by decide +kernel
theorem dX10_shelter_5 : decode cX10_shelter 5 = .ok (.getfield 57, 3) := by decide +kernel
theorem dX10_shelter_50 : decode cX10_shelter 50 = .ok (.aload_n 0, 1) := by decide +kernel
theorem dX10_shelter_51 : decode cX10_shelter 51 = .ok (.getfield 71, 3) := by decide +kernel
theorem dX10_shelter_54 : decode cX10_shelter 54 = .ok (.iload 5, 2) := by decide +kernel
theorem dX10_shelter_56 : decode cX10_shelter 56 = .ok (.iload_n 3, 1) := by decide +kernel
theorem dX10_shelter_57 : decode cX10_shelter 57 = .ok (.invokevirtual 315, 3) := by decide +kernel
theorem dX10_shelter_60 : decode cX10_shelter 60 = .ok (.ifCond .le 22, 3) := by decide +kernel
theorem dX10_shelter_63 : decode cX10_shelter 63 = .ok (.iload 4, 2) := by decide +kernel
theorem dX10_shelter_65 : decode cX10_shelter 65 = .ok (.aload_n 0, 1) := by decide +kernel
theorem dX10_shelter_66 : decode cX10_shelter 66 = .ok (.getfield 71, 3) := by decide +kernel
theorem dX10_shelter_69 : decode cX10_shelter 69 = .ok (.getfield 298, 3) := by decide +kernel
theorem dX10_shelter_72 : decode cX10_shelter 72 = .ok (.iload 5, 2) := by decide +kernel
theorem dX10_shelter_74 : decode cX10_shelter 74 = .ok (.iaload, 1) := by decide +kernel
theorem dX10_shelter_75 : decode cX10_shelter 75 = .ok (.iconst 1, 1) := by decide +kernel
theorem dX10_shelter_76 : decode cX10_shelter 76 = .ok (.isub, 1) := by decide +kernel
theorem dX10_shelter_77 : decode cX10_shelter 77 = .ok (.invokestatic 363, 3) := by decide +kernel
theorem dX10_shelter_8 : decode cX10_shelter 8 = .ok (.invokevirtual 289, 3) := by decide +kernel
theorem dX10_shelter_80 : decode cX10_shelter 80 = .ok (.istore 4, 2) := by decide +kernel
theorem dX10_shelter_82 : decode cX10_shelter 82 = .ok (.iinc 5 1, 3) := by decide +kernel
theorem dX10_shelter_85 : decode cX10_shelter 85 = .ok (.goto (-47), 3) := by decide +kernel
theorem dX10_shelter_88 : decode cX10_shelter 88 = .ok (.iload 4, 2) := by decide +kernel
theorem dX10_shelter_90 : decode cX10_shelter 90 = .ok (.iload_n 2, 1) := by decide +kernel
theorem dX10_shelter_91 : decode cX10_shelter 91 = .ok (.if_icmp .le 8, 3) := by decide +kernel
theorem dX10_shelter_94 : decode cX10_shelter 94 = .ok (.iload 4, 2) := by decide +kernel
theorem dX10_shelter_96 : decode cX10_shelter 96 = .ok (.istore_n 2, 1) := by decide +kernel
theorem dX10_shelter_97 : decode cX10_shelter 97 = .ok (.iload_n 3, 1) := by decide +kernel
theorem dX10_shelter_98 : decode cX10_shelter 98 = .ok (.istore_n 1, 1) := by decide +kernel
theorem dX10_shelter_99 : decode cX10_shelter 99 = .ok (.iinc 3 1, 3) := by decide +kernel
theorem dX10_spares_0 : decode cX10_spares 0 = .ok (.aload_n 0, 1) := by decide +kernel
theorem dX10_spares_1 : decode cX10_spares 1 = .ok (.iload_n 1, 1) := by decide +kernel
theorem dX10_spares_10 : decode cX10_spares 10 = .ok (.aload_n 0, 1) := by decide +kernel
theorem dX10_spares_11 : decode cX10_spares 11 = .ok (.getfield 71, 3) := by decide +kernel
theorem dX10_spares_14 : decode cX10_spares 14 = .ok (.aload_n 0, 1) := by decide +kernel
theorem dX10_spares_15 : decode cX10_spares 15 = .ok (.getfield 57, 3) := by decide +kernel
theorem dX10_spares_18 : decode cX10_spares 18 = .ok (.invokevirtual 289, 3) := by decide +kernel
theorem dX10_spares_2 : decode cX10_spares 2 = .ok (.invokevirtual 143, 3) := by decide +kernel
theorem dX10_spares_21 : decode cX10_spares 21 = .ok (.aload_n 0, 1) := by decide +kernel
theorem dX10_spares_22 : decode cX10_spares 22 = .ok (.getfield 71, 3) := by decide +kernel
theorem dX10_spares_25 : decode cX10_spares 25 = .ok (.iload_n 1, 1) := by decide +kernel
theorem dX10_spares_26 : decode cX10_spares 26 = .ok (.iconst 0, 1) := by decide +kernel
theorem dX10_spares_27 : decode cX10_spares 27 = .ok (.iload_n 2, 1) := by decide +kernel
theorem dX10_spares_28 : decode cX10_spares 28 = .ok (.invokevirtual 318, 3) := by decide +kernel
theorem dX10_spares_31 : decode cX10_spares 31 = .ok (.ireturn, 1) := by decide +kernel
theorem dX10_spares_5 : decode cX10_spares 5 = .ok (.aload_n 0, 1) := by decide +kernel
theorem dX10_spares_6 : decode cX10_spares 6 = .ok (.iload_n 2, 1) := by decide +kernel
theorem dX10_spares_7 : decode cX10_spares 7 = .ok (.invokevirtual 156, 3) := by decide +kernel
theorem dX10_thing_0 : decode cX10_thing 0 = .ok (.aload_n 0, 1) := by decide +kernel
theorem dX10_thing_1 : decode cX10_thing 1 = .ok (.iload_n 1, 1) := by decide +kernel
theorem dX10_thing_101 : decode cX10_thing 101 = .ok (.getfield 132, 3) := by decide +kernel
theorem dX10_thing_104 : decode cX10_thing 104 = .ok (.iload_n 1, 1) := by decide +kernel
theorem dX10_thing_105 : decode cX10_thing 105 = .ok (.iaload, 1) := by decide +kernel
theorem dX10_thing_106 : decode cX10_thing 106 = .ok (.ireturn, 1) := by decide +kernel
theorem dX10_thing_107 : decode cX10_thing 107 = .ok (.iload_n 3, 1) := by decide +kernel
theorem dX10_thing_108 : decode cX10_thing 108 = .ok (.ifCond .ne 23, 3) := by decide +kernel
theorem dX10_thing_111 : decode cX10_thing 111 = .ok (.aload_n 0, 1) := by decide +kernel
theorem dX10_thing_112 : decode cX10_thing 112 = .ok (.getfield 57, 3) := by decide +kernel
theorem dX10_thing_115 : decode cX10_thing 115 = .ok (.getfield 135, 3) := by decide +kernel
theorem dX10_thing_118 : decode cX10_thing 118 = .ok (.aload_n 0, 1) := by decide +kernel
theorem dX10_thing_119 : decode cX10_thing 119 = .ok (.getfield 57, 3) := by decide +kernel
theorem dX10_thing_12 : decode cX10_thing 12 = .ok (.iload_n 1, 1) := by decide +kernel
theorem dX10_thing_122 : decode cX10_thing 122 = .ok (.getfield 138, 3) := by decide +kernel
theorem dX10_thing_125 : decode cX10_thing 125 = .ok (.iload_n 1, 1) := by decide +kernel
theorem dX10_thing_126 : decode cX10_thing 126 = .ok (.iaload, 1) := by decide +kernel
theorem dX10_thing_127 : decode cX10_thing 127 = .ok (.isub, 1) := by decide +kernel
theorem dX10_thing_128 : decode cX10_thing 128 = .ok (.goto 4, 3) := by decide +kernel
theorem dX10_thing_13 : decode cX10_thing 13 = .ok (.iaload, 1) := by decide +kernel
theorem dX10_thing_131 : decode cX10_thing 131 = .ok (.iconst (-1), 1) := by decide +kernel
theorem dX10_thing_132 : decode cX10_thing 132 = .ok (.ireturn, 1) := by decide +kernel
theorem dX10_thing_133 : decode cX10_thing 133 = .ok (.iload_n 3, 1) := by decide +kernel
theorem dX10_thing_134 : decode cX10_thing 134 = .ok (.iconst 1, 1) := by decide +kernel
theorem dX10_thing_135 : decode cX10_thing 135 = .ok (.if_icmp .ne 23, 3) := by decide +kernel
theorem dX10_thing_138 : decode cX10_thing 138 = .ok (.aload_n 0, 1) := by decide +kernel
theorem dX10_thing_139 : decode cX10_thing 139 = .ok (.getfield 57, 3) := by decide +kernel
theorem dX10_thing_14 : decode cX10_thing 14 = .ok (.istore_n 3, 1) := by decide +kernel
theorem dX10_thing_142 : decode cX10_thing 142 = .ok (.getfield 138, 3) := by decide +kernel
theorem dX10_thing_145 : decode cX10_thing 145 = .ok (.iload_n 1, 1) := by decide +kernel
theorem dX10_thing_146 : decode cX10_thing 146 = .ok (.iaload, 1) := by decide +kernel
theorem dX10_thing_147 : decode cX10_thing 147 = .ok (.aload_n 0, 1) := by decide +kernel
theorem dX10_thing_148 : decode cX10_thing 148 = .ok (.getfield 57, 3) := by decide +kernel
theorem dX10_thing_15 : decode cX10_thing 15 = .ok (.iload_n 2, 1) := by decide +kernel
theorem dX10_thing_151 : decode cX10_thing 151 = .ok (.getfield 135, 3) := by decide +kernel
theorem dX10_thing_154 : decode cX10_thing 154 = .ok (.isub, 1) := by decide +kernel
theorem dX10_thing_155 : decode cX10_thing 155 = .ok (.goto 4, 3) := by decide +kernel
theorem dX10_thing_158 : decode cX10_thing 158 = .ok (.iconst (-1), 1) := by decide +kernel
theorem dX10_thing_159 : decode cX10_thing 159 = .ok (.ireturn, 1) := by decide +kernel
theorem dX10_thing_16 : decode cX10_thing 16 = .ok (.tableswitch 144 0 5 #[40, 53, 55, 73, 91, 117], 40) := by decide +kernel
theorem dX10_thing_160 : decode cX10_thing 160 = .ok (.new 83, 3) := by decide +kernel
theorem dX10_thing_163 : decode cX10_thing 163 = .ok (.dup, 1) := by decide +kernel
theorem dX10_thing_164 : decode cX10_thing 164 = .ok (.ldc 141, 2) := by decide +kernel
theorem dX10_thing_166 : decode cX10_thing 166 = .ok (.invokespecial 87, 3) := by decide +kernel
theorem dX10_thing_169 : decode cX10_thing 169 = .ok (.athrow, 1) := by decide +kernel
theorem dX10_thing_2 : decode cX10_thing 2 = .ok (.invokevirtual 120, 3) := by decide +kernel
theorem dX10_thing_5 : decode cX10_thing 5 = .ok (.aload_n 0, 1) := by decide +kernel
theorem dX10_thing_56 : decode cX10_thing 56 = .ok (.aload_n 0, 1) := by decide +kernel
theorem dX10_thing_57 : decode cX10_thing 57 = .ok (.getfield 57, 3) := by decide +kernel
theorem dX10_thing_6 : decode cX10_thing 6 = .ok (.getfield 57, 3) := by decide +kernel
theorem dX10_thing_60 : decode cX10_thing 60 = .ok (.getfield 113, 3) := by decide +kernel
theorem dX10_thing_63 : decode cX10_thing 63 = .ok (.getfield 126, 3) := by decide +kernel
theorem dX10_thing_66 : decode cX10_thing 66 = .ok (.iload_n 1, 1) := by decide +kernel
theorem dX10_thing_67 : decode cX10_thing 67 = .ok (.iaload, 1) := by decide +kernel
theorem dX10_thing_68 : decode cX10_thing 68 = .ok (.ireturn, 1) := by decide +kernel
theorem dX10_thing_69 : decode cX10_thing 69 = .ok (.iload_n 3, 1) := by decide +kernel
theorem dX10_thing_70 : decode cX10_thing 70 = .ok (.ireturn, 1) := by decide +kernel
theorem dX10_thing_71 : decode cX10_thing 71 = .ok (.iload_n 3, 1) := by decide +kernel
theorem dX10_thing_72 : decode cX10_thing 72 = .ok (.ifCond .ne 7, 3) := by decide +kernel
theorem dX10_thing_75 : decode cX10_thing 75 = .ok (.iconst (-1), 1) := by decide +kernel
theorem dX10_thing_76 : decode cX10_thing 76 = .ok (.goto 12, 3) := by decide +kernel
theorem dX10_thing_79 : decode cX10_thing 79 = .ok (.aload_n 0, 1) := by decide +kernel
theorem dX10_thing_80 : decode cX10_thing 80 = .ok (.getfield 57, 3) := by decide +kernel
theorem dX10_thing_83 : decode cX10_thing 83 = .ok (.getfield 129, 3) := by decide +kernel
theorem dX10_thing_86 : decode cX10_thing 86 = .ok (.iload_n 1, 1) := by decide +kernel
theorem dX10_thing_87 : decode cX10_thing 87 = .ok (.iaload, 1) := by decide +kernel
theorem dX10_thing_88 : decode cX10_thing 88 = .ok (.ireturn, 1) := by decide +kernel
theorem dX10_thing_89 : decode cX10_thing 89 = .ok (.iload_n 3, 1) := by decide +kernel
theorem dX10_thing_9 : decode cX10_thing 9 = .ok (.getfield 123, 3) := by decide +kernel
theorem dX10_thing_90 : decode cX10_thing 90 = .ok (.ifCond .ne 7, 3) := by decide +kernel
theorem dX10_thing_93 : decode cX10_thing 93 = .ok (.iconst (-1), 1) := by decide +kernel
theorem dX10_thing_94 : decode cX10_thing 94 = .ok (.goto 12, 3) := by decide +kernel
theorem dX10_thing_97 : decode cX10_thing 97 = .ok (.aload_n 0, 1) := by decide +kernel
theorem dX10_thing_98 : decode cX10_thing 98 = .ok (.getfield 57, 3) := by decide +kernel
theorem dX10_walker_0 : decode cX10_walker 0 = .ok (.aload_n 0, 1) := by decide +kernel
theorem dX10_walker_1 : decode cX10_walker 1 = .ok (.iload_n 1, 1) := by decide +kernel
theorem dX10_walker_2 : decode cX10_walker 2 = .ok (.invokevirtual 143, 3) := by decide +kernel
theorem dX10_walker_32 : decode cX10_walker 32 = .ok (.aload_n 0, 1) := by decide +kernel
theorem dX10_walker_33 : decode cX10_walker 33 = .ok (.getfield 57, 3) := by decide +kernel
theorem dX10_walker_36 : decode cX10_walker 36 = .ok (.getfield 113, 3) := by decide +kernel
theorem dX10_walker_39 : decode cX10_walker 39 = .ok (.iload_n 1, 1) := by decide +kernel
theorem dX10_walker_40 : decode cX10_walker 40 = .ok (.aload_n 0, 1) := by decide +kernel
theorem dX10_walker_41 : decode cX10_walker 41 = .ok (.getfield 57, 3) := by decide +kernel
theorem dX10_walker_44 : decode cX10_walker 44 = .ok (.getfield 135, 3) := by decide +kernel
theorem dX10_walker_47 : decode cX10_walker 47 = .ok (.invokevirtual 146, 3) := by decide +kernel
theorem dX10_walker_5 : decode cX10_walker 5 = .ok (.iload_n 2, 1) := by decide +kernel
theorem dX10_walker_50 : decode cX10_walker 50 = .ok (.ireturn, 1) := by decide +kernel
theorem dX10_walker_51 : decode cX10_walker 51 = .ok (.aload_n 0, 1) := by decide +kernel
theorem dX10_walker_52 : decode cX10_walker 52 = .ok (.getfield 57, 3) := by decide +kernel
theorem dX10_walker_55 : decode cX10_walker 55 = .ok (.getfield 150, 3) := by decide +kernel
theorem dX10_walker_58 : decode cX10_walker 58 = .ok (.iload_n 1, 1) := by decide +kernel
theorem dX10_walker_59 : decode cX10_walker 59 = .ok (.iaload, 1) := by decide +kernel
theorem dX10_walker_6 : decode cX10_walker 6 = .ok (.tableswitch 68 0 2 #[26, 45, 55], 26) := by decide +kernel
theorem dX10_walker_60 : decode cX10_walker 60 = .ok (.ireturn, 1) := by decide +kernel
theorem dX10_walker_61 : decode cX10_walker 61 = .ok (.aload_n 0, 1) := by decide +kernel
theorem dX10_walker_62 : decode cX10_walker 62 = .ok (.getfield 57, 3) := by decide +kernel
theorem dX10_walker_65 : decode cX10_walker 65 = .ok (.getfield 113, 3) := by decide +kernel
theorem dX10_walker_68 : decode cX10_walker 68 = .ok (.getfield 153, 3) := by decide +kernel
theorem dX10_walker_71 : decode cX10_walker 71 = .ok (.iload_n 1, 1) := by decide +kernel
theorem dX10_walker_72 : decode cX10_walker 72 = .ok (.iaload, 1) := by decide +kernel
theorem dX10_walker_73 : decode cX10_walker 73 = .ok (.ireturn, 1) := by decide +kernel
theorem dX10_walker_74 : decode cX10_walker 74 = .ok (.new 83, 3) := by decide +kernel
theorem dX10_walker_77 : decode cX10_walker 77 = .ok (.dup, 1) := by decide +kernel
theorem dX10_walker_78 : decode cX10_walker 78 = .ok (.ldc 141, 2) := by decide +kernel
theorem dX10_walker_80 : decode cX10_walker 80 = .ok (.invokespecial 87, 3) := by decide +kernel
theorem dX10_walker_83 : decode cX10_walker 83 = .ok (.athrow, 1) := by decide +kernel
theorem dX1_fallAfter_0 : decode cX1_fallAfter 0 = .ok (.aload_n 0, 1) := by decide +kernel
theorem dX1_fallAfter_1 : decode cX1_fallAfter 1 = .ok (.getfield 23, 3) := by decide +kernel
theorem dX1_fallAfter_102 : decode cX1_fallAfter 102 = .ok (.iload_n 2, 1) := by decide +kernel
theorem dX1_fallAfter_103 : decode cX1_fallAfter 103 = .ok (.iaload, 1) := by decide +kernel
theorem dX1_fallAfter_104 : decode cX1_fallAfter 104 = .ok (.iconst 1, 1) := by decide +kernel
theorem dX1_fallAfter_105 : decode cX1_fallAfter 105 = .ok (.if_icmp .ne 19, 3) := by decide +kernel
theorem dX1_fallAfter_108 : decode cX1_fallAfter 108 = .ok (.aload_n 0, 1) := by decide +kernel
theorem dX1_fallAfter_109 : decode cX1_fallAfter 109 = .ok (.getfield 23, 3) := by decide +kernel
theorem dX1_fallAfter_112 : decode cX1_fallAfter 112 = .ok (.ldc 41, 2) := by decide +kernel
theorem dX1_fallAfter_114 : decode cX1_fallAfter 114 = .ok (.invokevirtual 42, 3) := by decide +kernel
theorem dX1_fallAfter_117 : decode cX1_fallAfter 117 = .ok (.pop, 1) := by decide +kernel
theorem dX1_fallAfter_118 : decode cX1_fallAfter 118 = .ok (.iinc 7 1, 3) := by decide +kernel
theorem dX1_fallAfter_12 : decode cX1_fallAfter 12 = .ok (.iload 5, 2) := by decide +kernel
theorem dX1_fallAfter_121 : decode cX1_fallAfter 121 = .ok (.goto (-33), 3) := by decide +kernel
theorem dX1_fallAfter_124 : decode cX1_fallAfter 124 = .ok (.aload_n 0, 1) := by decide +kernel
theorem dX1_fallAfter_125 : decode cX1_fallAfter 125 = .ok (.getfield 23, 3) := by decide +kernel
theorem dX1_fallAfter_128 : decode cX1_fallAfter 128 = .ok (.getfield 31, 3) := by decide +kernel
theorem dX1_fallAfter_131 : decode cX1_fallAfter 131 = .ok (.aload_n 1, 1) := by decide +kernel
theorem dX1_fallAfter_132 : decode cX1_fallAfter 132 = .ok (.getfield 31, 3) := by decide +kernel
theorem dX1_fallAfter_135 : decode cX1_fallAfter 135 = .ok (.isub, 1) := by decide +kernel
theorem dX1_fallAfter_136 : decode cX1_fallAfter 136 = .ok (.ireturn, 1) := by decide +kernel
theorem dX1_fallAfter_14 : decode cX1_fallAfter 14 = .ok (.iadd, 1) := by decide +kernel
theorem dX1_fallAfter_15 : decode cX1_fallAfter 15 = .ok (.istore 6, 2) := by decide +kernel
theorem dX1_fallAfter_17 : decode cX1_fallAfter 17 = .ok (.iconst 0, 1) := by decide +kernel
theorem dX1_fallAfter_18 : decode cX1_fallAfter 18 = .ok (.istore 7, 2) := by decide +kernel
theorem dX1_fallAfter_20 : decode cX1_fallAfter 20 = .ok (.iload 7, 2) := by decide +kernel
theorem dX1_fallAfter_22 : decode cX1_fallAfter 22 = .ok (.bipush 8, 2) := by decide +kernel
theorem dX1_fallAfter_24 : decode cX1_fallAfter 24 = .ok (.if_icmp .ge 24, 3) := by decide +kernel
theorem dX1_fallAfter_27 : decode cX1_fallAfter 27 = .ok (.aload_n 0, 1) := by decide +kernel
theorem dX1_fallAfter_28 : decode cX1_fallAfter 28 = .ok (.getfield 23, 3) := by decide +kernel
theorem dX1_fallAfter_31 : decode cX1_fallAfter 31 = .ok (.iload 6, 2) := by decide +kernel
theorem dX1_fallAfter_33 : decode cX1_fallAfter 33 = .ok (.invokevirtual 42, 3) := by decide +kernel
theorem dX1_fallAfter_36 : decode cX1_fallAfter 36 = .ok (.ifCond .ne 6, 3) := by decide +kernel
theorem dX1_fallAfter_39 : decode cX1_fallAfter 39 = .ok (.goto 9, 3) := by decide +kernel
theorem dX1_fallAfter_4 : decode cX1_fallAfter 4 = .ok (.aload_n 1, 1) := by decide +kernel
theorem dX1_fallAfter_42 : decode cX1_fallAfter 42 = .ok (.iinc 7 1, 3) := by decide +kernel
theorem dX1_fallAfter_45 : decode cX1_fallAfter 45 = .ok (.goto (-25), 3) := by decide +kernel
theorem dX1_fallAfter_48 : decode cX1_fallAfter 48 = .ok (.aload_n 0, 1) := by decide +kernel
theorem dX1_fallAfter_49 : decode cX1_fallAfter 49 = .ok (.getfield 23, 3) := by decide +kernel
theorem dX1_fallAfter_5 : decode cX1_fallAfter 5 = .ok (.invokevirtual 27, 3) := by decide +kernel
theorem dX1_fallAfter_52 : decode cX1_fallAfter 52 = .ok (.iload 6, 2) := by decide +kernel
theorem dX1_fallAfter_54 : decode cX1_fallAfter 54 = .ok (.putfield 31, 3) := by decide +kernel
theorem dX1_fallAfter_57 : decode cX1_fallAfter 57 = .ok (.aload_n 0, 1) := by decide +kernel
theorem dX1_fallAfter_58 : decode cX1_fallAfter 58 = .ok (.getfield 23, 3) := by decide +kernel
theorem dX1_fallAfter_61 : decode cX1_fallAfter 61 = .ok (.iload_n 2, 1) := by decide +kernel
theorem dX1_fallAfter_62 : decode cX1_fallAfter 62 = .ok (.iload_n 3, 1) := by decide +kernel
theorem dX1_fallAfter_63 : decode cX1_fallAfter 63 = .ok (.iload 4, 2) := by decide +kernel
theorem dX1_fallAfter_65 : decode cX1_fallAfter 65 = .ok (.invokevirtual 64, 3) := by decide +kernel
theorem dX1_fallAfter_68 : decode cX1_fallAfter 68 = .ok (.ifCond .eq 5, 3) := by decide +kernel
theorem dX1_fallAfter_71 : decode cX1_fallAfter 71 = .ok (.iconst (-1), 1) := by decide +kernel
theorem dX1_fallAfter_72 : decode cX1_fallAfter 72 = .ok (.ireturn, 1) := by decide +kernel
theorem dX1_fallAfter_73 : decode cX1_fallAfter 73 = .ok (.aload_n 0, 1) := by decide +kernel
theorem dX1_fallAfter_74 : decode cX1_fallAfter 74 = .ok (.getfield 23, 3) := by decide +kernel
theorem dX1_fallAfter_77 : decode cX1_fallAfter 77 = .ok (.iload_n 2, 1) := by decide +kernel
theorem dX1_fallAfter_78 : decode cX1_fallAfter 78 = .ok (.iload_n 3, 1) := by decide +kernel
theorem dX1_fallAfter_79 : decode cX1_fallAfter 79 = .ok (.iload 4, 2) := by decide +kernel
theorem dX1_fallAfter_8 : decode cX1_fallAfter 8 = .ok (.aload_n 1, 1) := by decide +kernel
theorem dX1_fallAfter_81 : decode cX1_fallAfter 81 = .ok (.invokevirtual 68, 3) := by decide +kernel
theorem dX1_fallAfter_84 : decode cX1_fallAfter 84 = .ok (.pop, 1) := by decide +kernel
theorem dX1_fallAfter_85 : decode cX1_fallAfter 85 = .ok (.iconst 0, 1) := by decide +kernel
theorem dX1_fallAfter_86 : decode cX1_fallAfter 86 = .ok (.istore 7, 2) := by decide +kernel
theorem dX1_fallAfter_88 : decode cX1_fallAfter 88 = .ok (.iload 7, 2) := by decide +kernel
theorem dX1_fallAfter_9 : decode cX1_fallAfter 9 = .ok (.getfield 31, 3) := by decide +kernel
theorem dX1_fallAfter_90 : decode cX1_fallAfter 90 = .ok (.bipush 8, 2) := by decide +kernel
theorem dX1_fallAfter_92 : decode cX1_fallAfter 92 = .ok (.if_icmp .ge 32, 3) := by decide +kernel
theorem dX1_fallAfter_95 : decode cX1_fallAfter 95 = .ok (.aload_n 0, 1) := by decide +kernel
theorem dX1_fallAfter_96 : decode cX1_fallAfter 96 = .ok (.getfield 23, 3) := by decide +kernel
theorem dX1_fallAfter_99 : decode cX1_fallAfter 99 = .ok (.getfield 71, 3) := by decide +kernel
theorem dX1_fallOf_0 : decode cX1_fallOf 0 = .ok (.iconst 0, 1) := by decide +kernel
theorem dX1_fallOf_1 : decode cX1_fallOf 1 = .ok (.istore_n 2, 1) := by decide +kernel
theorem dX1_fallOf_10 : decode cX1_fallOf 10 = .ok (.aload_n 0, 1) := by decide +kernel
theorem dX1_fallOf_11 : decode cX1_fallOf 11 = .ok (.getfield 15, 3) := by decide +kernel
theorem dX1_fallOf_14 : decode cX1_fallOf 14 = .ok (.iload_n 2, 1) := by decide +kernel
theorem dX1_fallOf_15 : decode cX1_fallOf 15 = .ok (.iaload, 1) := by decide +kernel
theorem dX1_fallOf_16 : decode cX1_fallOf 16 = .ok (.iload_n 1, 1) := by decide +kernel
theorem dX1_fallOf_17 : decode cX1_fallOf 17 = .ok (.ishr, 1) := by decide +kernel
theorem dX1_fallOf_18 : decode cX1_fallOf 18 = .ok (.iconst 1, 1) := by decide +kernel
theorem dX1_fallOf_19 : decode cX1_fallOf 19 = .ok (.iand, 1) := by decide +kernel
theorem dX1_fallOf_2 : decode cX1_fallOf 2 = .ok (.iload_n 2, 1) := by decide +kernel
theorem dX1_fallOf_20 : decode cX1_fallOf 20 = .ok (.ifCond .eq 10, 3) := by decide +kernel
theorem dX1_fallOf_23 : decode cX1_fallOf 23 = .ok (.aload_n 0, 1) := by decide +kernel
theorem dX1_fallOf_24 : decode cX1_fallOf 24 = .ok (.getfield 9, 3) := by decide +kernel
theorem dX1_fallOf_27 : decode cX1_fallOf 27 = .ok (.iload_n 2, 1) := by decide +kernel
theorem dX1_fallOf_28 : decode cX1_fallOf 28 = .ok (.iaload, 1) := by decide +kernel
theorem dX1_fallOf_29 : decode cX1_fallOf 29 = .ok (.ireturn, 1) := by decide +kernel
theorem dX1_fallOf_3 : decode cX1_fallOf 3 = .ok (.aload_n 0, 1) := by decide +kernel
theorem dX1_fallOf_30 : decode cX1_fallOf 30 = .ok (.iinc 2 1, 3) := by decide +kernel
theorem dX1_fallOf_33 : decode cX1_fallOf 33 = .ok (.goto (-31), 3) := by decide +kernel
theorem dX1_fallOf_36 : decode cX1_fallOf 36 = .ok (.iconst (-1), 1) := by decide +kernel
theorem dX1_fallOf_37 : decode cX1_fallOf 37 = .ok (.ireturn, 1) := by decide +kernel
theorem dX1_fallOf_4 : decode cX1_fallOf 4 = .ok (.getfield 38, 3) := by decide +kernel
theorem dX1_fallOf_7 : decode cX1_fallOf 7 = .ok (.if_icmp .ge 29, 3) := by decide +kernel
theorem dX1_hurtOf_0 : decode cX1_hurtOf 0 = .ok (.iconst 0, 1) := by decide +kernel
theorem dX1_hurtOf_1 : decode cX1_hurtOf 1 = .ok (.istore 4, 2) := by decide +kernel
theorem dX1_hurtOf_12 : decode cX1_hurtOf 12 = .ok (.if_icmp .ge 60, 3) := by decide +kernel
theorem dX1_hurtOf_15 : decode cX1_hurtOf 15 = .ok (.aload_n 0, 1) := by decide +kernel
theorem dX1_hurtOf_16 : decode cX1_hurtOf 16 = .ok (.getfield 23, 3) := by decide +kernel
theorem dX1_hurtOf_19 : decode cX1_hurtOf 19 = .ok (.getfield 52, 3) := by decide +kernel
theorem dX1_hurtOf_22 : decode cX1_hurtOf 22 = .ok (.iload_n 1, 1) := by decide +kernel
theorem dX1_hurtOf_23 : decode cX1_hurtOf 23 = .ok (.aload_n 0, 1) := by decide +kernel
theorem dX1_hurtOf_24 : decode cX1_hurtOf 24 = .ok (.getfield 35, 3) := by decide +kernel
theorem dX1_hurtOf_27 : decode cX1_hurtOf 27 = .ok (.aload_n 0, 1) := by decide +kernel
theorem dX1_hurtOf_28 : decode cX1_hurtOf 28 = .ok (.getfield 9, 3) := by decide +kernel
theorem dX1_hurtOf_3 : decode cX1_hurtOf 3 = .ok (.iconst 0, 1) := by decide +kernel
theorem dX1_hurtOf_31 : decode cX1_hurtOf 31 = .ok (.iload 5, 2) := by decide +kernel
theorem dX1_hurtOf_33 : decode cX1_hurtOf 33 = .ok (.iaload, 1) := by decide +kernel
theorem dX1_hurtOf_34 : decode cX1_hurtOf 34 = .ok (.iadd, 1) := by decide +kernel
theorem dX1_hurtOf_35 : decode cX1_hurtOf 35 = .ok (.iload_n 2, 1) := by decide +kernel
theorem dX1_hurtOf_36 : decode cX1_hurtOf 36 = .ok (.iadd, 1) := by decide +kernel
theorem dX1_hurtOf_37 : decode cX1_hurtOf 37 = .ok (.invokevirtual 56, 3) := by decide +kernel
theorem dX1_hurtOf_4 : decode cX1_hurtOf 4 = .ok (.istore 5, 2) := by decide +kernel
theorem dX1_hurtOf_40 : decode cX1_hurtOf 40 = .ok (.istore 6, 2) := by decide +kernel
theorem dX1_hurtOf_42 : decode cX1_hurtOf 42 = .ok (.iload_n 3, 1) := by decide +kernel
theorem dX1_hurtOf_43 : decode cX1_hurtOf 43 = .ok (.iconst (-1), 1) := by decide +kernel
theorem dX1_hurtOf_44 : decode cX1_hurtOf 44 = .ok (.if_icmp .eq 9, 3) := by decide +kernel
theorem dX1_hurtOf_47 : decode cX1_hurtOf 47 = .ok (.iload_n 3, 1) := by decide +kernel
theorem dX1_hurtOf_48 : decode cX1_hurtOf 48 = .ok (.iload 6, 2) := by decide +kernel
theorem dX1_hurtOf_50 : decode cX1_hurtOf 50 = .ok (.if_icmp .ne 16, 3) := by decide +kernel
theorem dX1_hurtOf_53 : decode cX1_hurtOf 53 = .ok (.iload 4, 2) := by decide +kernel
theorem dX1_hurtOf_55 : decode cX1_hurtOf 55 = .ok (.aload_n 0, 1) := by decide +kernel
theorem dX1_hurtOf_56 : decode cX1_hurtOf 56 = .ok (.iload 5, 2) := by decide +kernel
theorem dX1_hurtOf_58 : decode cX1_hurtOf 58 = .ok (.iload 6, 2) := by decide +kernel
theorem dX1_hurtOf_6 : decode cX1_hurtOf 6 = .ok (.iload 5, 2) := by decide +kernel
theorem dX1_hurtOf_60 : decode cX1_hurtOf 60 = .ok (.invokevirtual 61, 3) := by decide +kernel
theorem dX1_hurtOf_63 : decode cX1_hurtOf 63 = .ok (.iadd, 1) := by decide +kernel
theorem dX1_hurtOf_64 : decode cX1_hurtOf 64 = .ok (.istore 4, 2) := by decide +kernel
theorem dX1_hurtOf_66 : decode cX1_hurtOf 66 = .ok (.iinc 5 1, 3) := by decide +kernel
theorem dX1_hurtOf_69 : decode cX1_hurtOf 69 = .ok (.goto (-63), 3) := by decide +kernel
theorem dX1_hurtOf_72 : decode cX1_hurtOf 72 = .ok (.iload 4, 2) := by decide +kernel
theorem dX1_hurtOf_74 : decode cX1_hurtOf 74 = .ok (.ireturn, 1) := by decide +kernel
theorem dX1_hurtOf_8 : decode cX1_hurtOf 8 = .ok (.aload_n 0, 1) := by decide +kernel
theorem dX1_hurtOf_9 : decode cX1_hurtOf 9 = .ok (.getfield 38, 3) := by decide +kernel
theorem dX1_look_0 : decode cX1_look 0 = .ok (.aload_n 0, 1) := by decide +kernel
theorem dX1_look_1 : decode cX1_look 1 = .ok (.getfield 23, 3) := by decide +kernel
theorem dX1_look_10 : decode cX1_look 10 = .ok (.getfield 31, 3) := by decide +kernel
theorem dX1_look_13 : decode cX1_look 13 = .ok (.putfield 35, 3) := by decide +kernel
theorem dX1_look_16 : decode cX1_look 16 = .ok (.aload_n 0, 1) := by decide +kernel
theorem dX1_look_17 : decode cX1_look 17 = .ok (.iconst 0, 1) := by decide +kernel
theorem dX1_look_18 : decode cX1_look 18 = .ok (.putfield 38, 3) := by decide +kernel
theorem dX1_look_21 : decode cX1_look 21 = .ok (.iconst 0, 1) := by decide +kernel
theorem dX1_look_22 : decode cX1_look 22 = .ok (.istore_n 2, 1) := by decide +kernel
theorem dX1_look_23 : decode cX1_look 23 = .ok (.iload_n 2, 1) := by decide +kernel
theorem dX1_look_24 : decode cX1_look 24 = .ok (.bipush 8, 2) := by decide +kernel
theorem dX1_look_26 : decode cX1_look 26 = .ok (.if_icmp .ge 62, 3) := by decide +kernel
theorem dX1_look_29 : decode cX1_look 29 = .ok (.aload_n 0, 1) := by decide +kernel
theorem dX1_look_30 : decode cX1_look 30 = .ok (.getfield 23, 3) := by decide +kernel
theorem dX1_look_33 : decode cX1_look 33 = .ok (.ldc 41, 2) := by decide +kernel
theorem dX1_look_35 : decode cX1_look 35 = .ok (.invokevirtual 42, 3) := by decide +kernel
theorem dX1_look_38 : decode cX1_look 38 = .ok (.ifCond .ne 6, 3) := by decide +kernel
theorem dX1_look_4 : decode cX1_look 4 = .ok (.aload_n 1, 1) := by decide +kernel
theorem dX1_look_41 : decode cX1_look 41 = .ok (.goto 47, 3) := by decide +kernel
theorem dX1_look_44 : decode cX1_look 44 = .ok (.aload_n 0, 1) := by decide +kernel
theorem dX1_look_45 : decode cX1_look 45 = .ok (.getfield 9, 3) := by decide +kernel
theorem dX1_look_48 : decode cX1_look 48 = .ok (.iload_n 2, 1) := by decide +kernel
theorem dX1_look_49 : decode cX1_look 49 = .ok (.aload_n 0, 1) := by decide +kernel
theorem dX1_look_5 : decode cX1_look 5 = .ok (.invokevirtual 27, 3) := by decide +kernel
theorem dX1_look_50 : decode cX1_look 50 = .ok (.getfield 23, 3) := by decide +kernel
theorem dX1_look_53 : decode cX1_look 53 = .ok (.getfield 31, 3) := by decide +kernel
theorem dX1_look_56 : decode cX1_look 56 = .ok (.aload_n 1, 1) := by decide +kernel
theorem dX1_look_57 : decode cX1_look 57 = .ok (.getfield 31, 3) := by decide +kernel
theorem dX1_look_60 : decode cX1_look 60 = .ok (.isub, 1) := by decide +kernel
theorem dX1_look_61 : decode cX1_look 61 = .ok (.iastore, 1) := by decide +kernel
theorem dX1_look_62 : decode cX1_look 62 = .ok (.aload_n 0, 1) := by decide +kernel
theorem dX1_look_63 : decode cX1_look 63 = .ok (.getfield 15, 3) := by decide +kernel
theorem dX1_look_66 : decode cX1_look 66 = .ok (.iload_n 2, 1) := by decide +kernel
theorem dX1_look_67 : decode cX1_look 67 = .ok (.aload_n 0, 1) := by decide +kernel
theorem dX1_look_68 : decode cX1_look 68 = .ok (.getfield 23, 3) := by decide +kernel
theorem dX1_look_71 : decode cX1_look 71 = .ok (.getfield 46, 3) := by decide +kernel
theorem dX1_look_74 : decode cX1_look 74 = .ok (.iastore, 1) := by decide +kernel
theorem dX1_look_75 : decode cX1_look 75 = .ok (.aload_n 0, 1) := by decide +kernel
theorem dX1_look_76 : decode cX1_look 76 = .ok (.iload_n 2, 1) := by decide +kernel
theorem dX1_look_77 : decode cX1_look 77 = .ok (.iconst 1, 1) := by decide +kernel
theorem dX1_look_78 : decode cX1_look 78 = .ok (.iadd, 1) := by decide +kernel
theorem dX1_look_79 : decode cX1_look 79 = .ok (.putfield 38, 3) := by decide +kernel
theorem dX1_look_8 : decode cX1_look 8 = .ok (.aload_n 0, 1) := by decide +kernel
theorem dX1_look_82 : decode cX1_look 82 = .ok (.iinc 2 1, 3) := by decide +kernel
theorem dX1_look_85 : decode cX1_look 85 = .ok (.goto (-62), 3) := by decide +kernel
theorem dX1_look_88 : decode cX1_look 88 = .ok (.return_, 1) := by decide +kernel
theorem dX1_look_9 : decode cX1_look 9 = .ok (.aload_n 1, 1) := by decide +kernel
theorem dX1_weightIn_0 : decode cX1_weightIn 0 = .ok (.iload_n 1, 1) := by decide +kernel
theorem dX1_weightIn_1 : decode cX1_weightIn 1 = .ok (.ifCond .lt 11, 3) := by decide +kernel
theorem dX1_weightIn_12 : decode cX1_weightIn 12 = .ok (.iconst 0, 1) := by decide +kernel
theorem dX1_weightIn_13 : decode cX1_weightIn 13 = .ok (.ireturn, 1) := by decide +kernel
theorem dX1_weightIn_14 : decode cX1_weightIn 14 = .ok (.aload_n 0, 1) := by decide +kernel
theorem dX1_weightIn_15 : decode cX1_weightIn 15 = .ok (.getfield 23, 3) := by decide +kernel
theorem dX1_weightIn_18 : decode cX1_weightIn 18 = .ok (.aload_n 0, 1) := by decide +kernel
theorem dX1_weightIn_19 : decode cX1_weightIn 19 = .ok (.getfield 15, 3) := by decide +kernel
theorem dX1_weightIn_22 : decode cX1_weightIn 22 = .ok (.iload_n 1, 1) := by decide +kernel
theorem dX1_weightIn_23 : decode cX1_weightIn 23 = .ok (.iaload, 1) := by decide +kernel
theorem dX1_weightIn_24 : decode cX1_weightIn 24 = .ok (.iload_n 2, 1) := by decide +kernel
theorem dX1_weightIn_25 : decode cX1_weightIn 25 = .ok (.invokevirtual 48, 3) := by decide +kernel
theorem dX1_weightIn_28 : decode cX1_weightIn 28 = .ok (.ireturn, 1) := by decide +kernel
theorem dX1_weightIn_4 : decode cX1_weightIn 4 = .ok (.iload_n 1, 1) := by decide +kernel
theorem dX1_weightIn_5 : decode cX1_weightIn 5 = .ok (.aload_n 0, 1) := by decide +kernel
theorem dX1_weightIn_6 : decode cX1_weightIn 6 = .ok (.getfield 38, 3) := by decide +kernel
theorem dX1_weightIn_9 : decode cX1_weightIn 9 = .ok (.if_icmp .lt 5, 3) := by decide +kernel
theorem dX2_forget_0 : decode cX2_forget 0 = .ok (.aload_n 0, 1) := by decide +kernel
theorem dX2_forget_1 : decode cX2_forget 1 = .ok (.iconst 0, 1) := by decide +kernel
theorem dX2_forget_10 : decode cX2_forget 10 = .ok (.return_, 1) := by decide +kernel
theorem dX2_forget_2 : decode cX2_forget 2 = .ok (.putfield 20, 3) := by decide +kernel
theorem dX2_forget_5 : decode cX2_forget 5 = .ok (.aload_n 0, 1) := by decide +kernel
theorem dX2_forget_6 : decode cX2_forget 6 = .ok (.iconst 0, 1) := by decide +kernel
theorem dX2_forget_7 : decode cX2_forget 7 = .ok (.putfield 24, 3) := by decide +kernel
theorem dX2_goBack_0 : decode cX2_goBack 0 = .ok (.iload_n 1, 1) := by decide +kernel
theorem dX2_goBack_1 : decode cX2_goBack 1 = .ok (.iconst 1, 1) := by decide +kernel
theorem dX2_goBack_10 : decode cX2_goBack 10 = .ok (.if_icmp .le 4, 3) := by decide +kernel
theorem dX2_goBack_13 : decode cX2_goBack 13 = .ok (.return_, 1) := by decide +kernel
theorem dX2_goBack_14 : decode cX2_goBack 14 = .ok (.aload_n 0, 1) := by decide +kernel
theorem dX2_goBack_15 : decode cX2_goBack 15 = .ok (.dup, 1) := by decide +kernel
theorem dX2_goBack_16 : decode cX2_goBack 16 = .ok (.getfield 24, 3) := by decide +kernel
theorem dX2_goBack_19 : decode cX2_goBack 19 = .ok (.iload_n 1, 1) := by decide +kernel
theorem dX2_goBack_2 : decode cX2_goBack 2 = .ok (.if_icmp .lt 11, 3) := by decide +kernel
theorem dX2_goBack_20 : decode cX2_goBack 20 = .ok (.isub, 1) := by decide +kernel
theorem dX2_goBack_21 : decode cX2_goBack 21 = .ok (.putfield 24, 3) := by decide +kernel
theorem dX2_goBack_24 : decode cX2_goBack 24 = .ok (.aload_n 2, 1) := by decide +kernel
theorem dX2_goBack_25 : decode cX2_goBack 25 = .ok (.aload_n 0, 1) := by decide +kernel
theorem dX2_goBack_26 : decode cX2_goBack 26 = .ok (.getfield 11, 3) := by decide +kernel
theorem dX2_goBack_29 : decode cX2_goBack 29 = .ok (.aload_n 0, 1) := by decide +kernel
theorem dX2_goBack_30 : decode cX2_goBack 30 = .ok (.getfield 20, 3) := by decide +kernel
theorem dX2_goBack_33 : decode cX2_goBack 33 = .ok (.aload_n 0, 1) := by decide +kernel
theorem dX2_goBack_34 : decode cX2_goBack 34 = .ok (.getfield 24, 3) := by decide +kernel
theorem dX2_goBack_37 : decode cX2_goBack 37 = .ok (.iadd, 1) := by decide +kernel
theorem dX2_goBack_38 : decode cX2_goBack 38 = .ok (.bipush 10, 2) := by decide +kernel
theorem dX2_goBack_40 : decode cX2_goBack 40 = .ok (.irem, 1) := by decide +kernel
theorem dX2_goBack_41 : decode cX2_goBack 41 = .ok (.aaload, 1) := by decide +kernel
theorem dX2_goBack_42 : decode cX2_goBack 42 = .ok (.invokevirtual 27, 3) := by decide +kernel
theorem dX2_goBack_45 : decode cX2_goBack 45 = .ok (.return_, 1) := by decide +kernel
theorem dX2_goBack_5 : decode cX2_goBack 5 = .ok (.iload_n 1, 1) := by decide +kernel
theorem dX2_goBack_6 : decode cX2_goBack 6 = .ok (.aload_n 0, 1) := by decide +kernel
theorem dX2_goBack_7 : decode cX2_goBack 7 = .ok (.getfield 24, 3) := by decide +kernel
theorem dX2_keep_0 : decode cX2_keep 0 = .ok (.aload_n 0, 1) := by decide +kernel
theorem dX2_keep_1 : decode cX2_keep 1 = .ok (.getfield 11, 3) := by decide +kernel
theorem dX2_keep_12 : decode cX2_keep 12 = .ok (.iadd, 1) := by decide +kernel
theorem dX2_keep_13 : decode cX2_keep 13 = .ok (.bipush 10, 2) := by decide +kernel
theorem dX2_keep_15 : decode cX2_keep 15 = .ok (.irem, 1) := by decide +kernel
theorem dX2_keep_16 : decode cX2_keep 16 = .ok (.aaload, 1) := by decide +kernel
theorem dX2_keep_17 : decode cX2_keep 17 = .ok (.aload_n 1, 1) := by decide +kernel
theorem dX2_keep_18 : decode cX2_keep 18 = .ok (.invokevirtual 27, 3) := by decide +kernel
theorem dX2_keep_21 : decode cX2_keep 21 = .ok (.aload_n 0, 1) := by decide +kernel
theorem dX2_keep_22 : decode cX2_keep 22 = .ok (.getfield 24, 3) := by decide +kernel
theorem dX2_keep_25 : decode cX2_keep 25 = .ok (.bipush 10, 2) := by decide +kernel
theorem dX2_keep_27 : decode cX2_keep 27 = .ok (.if_icmp .ge 16, 3) := by decide +kernel
theorem dX2_keep_30 : decode cX2_keep 30 = .ok (.aload_n 0, 1) := by decide +kernel
theorem dX2_keep_31 : decode cX2_keep 31 = .ok (.dup, 1) := by decide +kernel
theorem dX2_keep_32 : decode cX2_keep 32 = .ok (.getfield 24, 3) := by decide +kernel
theorem dX2_keep_35 : decode cX2_keep 35 = .ok (.iconst 1, 1) := by decide +kernel
theorem dX2_keep_36 : decode cX2_keep 36 = .ok (.iadd, 1) := by decide +kernel
theorem dX2_keep_37 : decode cX2_keep 37 = .ok (.putfield 24, 3) := by decide +kernel
theorem dX2_keep_4 : decode cX2_keep 4 = .ok (.aload_n 0, 1) := by decide +kernel
theorem dX2_keep_40 : decode cX2_keep 40 = .ok (.goto 16, 3) := by decide +kernel
theorem dX2_keep_43 : decode cX2_keep 43 = .ok (.aload_n 0, 1) := by decide +kernel
theorem dX2_keep_44 : decode cX2_keep 44 = .ok (.aload_n 0, 1) := by decide +kernel
theorem dX2_keep_45 : decode cX2_keep 45 = .ok (.getfield 20, 3) := by decide +kernel
theorem dX2_keep_48 : decode cX2_keep 48 = .ok (.iconst 1, 1) := by decide +kernel
theorem dX2_keep_49 : decode cX2_keep 49 = .ok (.iadd, 1) := by decide +kernel
theorem dX2_keep_5 : decode cX2_keep 5 = .ok (.getfield 20, 3) := by decide +kernel
theorem dX2_keep_50 : decode cX2_keep 50 = .ok (.bipush 10, 2) := by decide +kernel
theorem dX2_keep_52 : decode cX2_keep 52 = .ok (.irem, 1) := by decide +kernel
theorem dX2_keep_53 : decode cX2_keep 53 = .ok (.putfield 20, 3) := by decide +kernel
theorem dX2_keep_56 : decode cX2_keep 56 = .ok (.return_, 1) := by decide +kernel
theorem dX2_keep_8 : decode cX2_keep 8 = .ok (.aload_n 0, 1) := by decide +kernel
theorem dX2_keep_9 : decode cX2_keep 9 = .ok (.getfield 24, 3) := by decide +kernel
theorem dX4_join_0 : decode cX4_join 0 = .ok (.iload_n 0, 1) := by decide +kernel
theorem dX4_join_1 : decode cX4_join 1 = .ok (.tableswitch 109 2001 2007 #[43, 47, 51, 55, 67, 79, 91], 43) := by decide +kernel
theorem dX4_join_100 : decode cX4_join 100 = .ok (.lcmp, 1) := by decide +kernel
theorem dX4_join_101 : decode cX4_join 101 = .ok (.ifCond .eq 7, 3) := by decide +kernel
theorem dX4_join_104 : decode cX4_join 104 = .ok (.lconst 1, 1) := by decide +kernel
theorem dX4_join_105 : decode cX4_join 105 = .ok (.goto 4, 3) := by decide +kernel
theorem dX4_join_108 : decode cX4_join 108 = .ok (.lconst 0, 1) := by decide +kernel
theorem dX4_join_109 : decode cX4_join 109 = .ok (.lreturn, 1) := by decide +kernel
theorem dX4_join_110 : decode cX4_join 110 = .ok (.lload_n 1, 1) := by decide +kernel
theorem dX4_join_111 : decode cX4_join 111 = .ok (.lconst 0, 1) := by decide +kernel
theorem dX4_join_112 : decode cX4_join 112 = .ok (.lcmp, 1) := by decide +kernel
theorem dX4_join_113 : decode cX4_join 113 = .ok (.ifCond .ne 9, 3) := by decide +kernel
theorem dX4_join_116 : decode cX4_join 116 = .ok (.lload_n 3, 1) := by decide +kernel
theorem dX4_join_117 : decode cX4_join 117 = .ok (.lconst 0, 1) := by decide +kernel
theorem dX4_join_118 : decode cX4_join 118 = .ok (.lcmp, 1) := by decide +kernel
theorem dX4_join_119 : decode cX4_join 119 = .ok (.ifCond .eq 7, 3) := by decide +kernel
theorem dX4_join_122 : decode cX4_join 122 = .ok (.lconst 1, 1) := by decide +kernel
theorem dX4_join_123 : decode cX4_join 123 = .ok (.goto 4, 3) := by decide +kernel
theorem dX4_join_126 : decode cX4_join 126 = .ok (.lconst 0, 1) := by decide +kernel
theorem dX4_join_127 : decode cX4_join 127 = .ok (.lreturn, 1) := by decide +kernel
theorem dX4_join_44 : decode cX4_join 44 = .ok (.lload_n 1, 1) := by decide +kernel
theorem dX4_join_45 : decode cX4_join 45 = .ok (.lload_n 3, 1) := by decide +kernel
theorem dX4_join_46 : decode cX4_join 46 = .ok (.ladd, 1) := by decide +kernel
theorem dX4_join_47 : decode cX4_join 47 = .ok (.lreturn, 1) := by decide +kernel
theorem dX4_join_48 : decode cX4_join 48 = .ok (.lload_n 1, 1) := by decide +kernel
theorem dX4_join_49 : decode cX4_join 49 = .ok (.lload_n 3, 1) := by decide +kernel
theorem dX4_join_50 : decode cX4_join 50 = .ok (.lsub, 1) := by decide +kernel
theorem dX4_join_51 : decode cX4_join 51 = .ok (.lreturn, 1) := by decide +kernel
theorem dX4_join_52 : decode cX4_join 52 = .ok (.lload_n 1, 1) := by decide +kernel
theorem dX4_join_53 : decode cX4_join 53 = .ok (.lload_n 3, 1) := by decide +kernel
theorem dX4_join_54 : decode cX4_join 54 = .ok (.lmul, 1) := by decide +kernel
theorem dX4_join_55 : decode cX4_join 55 = .ok (.lreturn, 1) := by decide +kernel
theorem dX4_join_56 : decode cX4_join 56 = .ok (.lload_n 1, 1) := by decide +kernel
theorem dX4_join_57 : decode cX4_join 57 = .ok (.lload_n 3, 1) := by decide +kernel
theorem dX4_join_58 : decode cX4_join 58 = .ok (.lcmp, 1) := by decide +kernel
theorem dX4_join_59 : decode cX4_join 59 = .ok (.ifCond .ne 7, 3) := by decide +kernel
theorem dX4_join_62 : decode cX4_join 62 = .ok (.lconst 1, 1) := by decide +kernel
theorem dX4_join_63 : decode cX4_join 63 = .ok (.goto 4, 3) := by decide +kernel
theorem dX4_join_66 : decode cX4_join 66 = .ok (.lconst 0, 1) := by decide +kernel
theorem dX4_join_67 : decode cX4_join 67 = .ok (.lreturn, 1) := by decide +kernel
theorem dX4_join_68 : decode cX4_join 68 = .ok (.lload_n 1, 1) := by decide +kernel
theorem dX4_join_69 : decode cX4_join 69 = .ok (.lload_n 3, 1) := by decide +kernel
theorem dX4_join_70 : decode cX4_join 70 = .ok (.lcmp, 1) := by decide +kernel
theorem dX4_join_71 : decode cX4_join 71 = .ok (.ifCond .ge 7, 3) := by decide +kernel
theorem dX4_join_74 : decode cX4_join 74 = .ok (.lconst 1, 1) := by decide +kernel
theorem dX4_join_75 : decode cX4_join 75 = .ok (.goto 4, 3) := by decide +kernel
theorem dX4_join_78 : decode cX4_join 78 = .ok (.lconst 0, 1) := by decide +kernel
theorem dX4_join_79 : decode cX4_join 79 = .ok (.lreturn, 1) := by decide +kernel
theorem dX4_join_80 : decode cX4_join 80 = .ok (.lload_n 1, 1) := by decide +kernel
theorem dX4_join_81 : decode cX4_join 81 = .ok (.lload_n 3, 1) := by decide +kernel
theorem dX4_join_82 : decode cX4_join 82 = .ok (.lcmp, 1) := by decide +kernel
theorem dX4_join_83 : decode cX4_join 83 = .ok (.ifCond .le 7, 3) := by decide +kernel
theorem dX4_join_86 : decode cX4_join 86 = .ok (.lconst 1, 1) := by decide +kernel
theorem dX4_join_87 : decode cX4_join 87 = .ok (.goto 4, 3) := by decide +kernel
theorem dX4_join_90 : decode cX4_join 90 = .ok (.lconst 0, 1) := by decide +kernel
theorem dX4_join_91 : decode cX4_join 91 = .ok (.lreturn, 1) := by decide +kernel
theorem dX4_join_92 : decode cX4_join 92 = .ok (.lload_n 1, 1) := by decide +kernel
theorem dX4_join_93 : decode cX4_join 93 = .ok (.lconst 0, 1) := by decide +kernel
theorem dX4_join_94 : decode cX4_join 94 = .ok (.lcmp, 1) := by decide +kernel
theorem dX4_join_95 : decode cX4_join 95 = .ok (.ifCond .eq 13, 3) := by decide +kernel
theorem dX4_join_98 : decode cX4_join 98 = .ok (.lload_n 3, 1) := by decide +kernel
theorem dX4_join_99 : decode cX4_join 99 = .ok (.lconst 0, 1) := by decide +kernel
theorem dX4_value_0 : decode cX4_value 0 = .ok (.iconst 0, 1) := by decide +kernel
theorem dX4_value_1 : decode cX4_value 1 = .ok (.istore_n 1, 1) := by decide +kernel
theorem dX4_value_10 : decode cX4_value 10 = .ok (.if_icmp .ge 152, 3) := by decide +kernel
theorem dX4_value_100 : decode cX4_value 100 = .ok (.ldc2_w 40, 3) := by decide +kernel
theorem dX4_value_103 : decode cX4_value 103 = .ok (.lload 4, 2) := by decide +kernel
theorem dX4_value_105 : decode cX4_value 105 = .ok (.invokestatic 42, 3) := by decide +kernel
theorem dX4_value_108 : decode cX4_value 108 = .ok (.invokestatic 45, 3) := by decide +kernel
theorem dX4_value_111 : decode cX4_value 111 = .ok (.l2i, 1) := by decide +kernel
theorem dX4_value_112 : decode cX4_value 112 = .ok (.iastore, 1) := by decide +kernel
theorem dX4_value_113 : decode cX4_value 113 = .ok (.goto 43, 3) := by decide +kernel
theorem dX4_value_116 : decode cX4_value 116 = .ok (.iload_n 1, 1) := by decide +kernel
theorem dX4_value_117 : decode cX4_value 117 = .ok (.bipush 32, 2) := by decide +kernel
theorem dX4_value_119 : decode cX4_value 119 = .ok (.if_icmp .ge 37, 3) := by decide +kernel
theorem dX4_value_122 : decode cX4_value 122 = .ok (.aload_n 0, 1) := by decide +kernel
theorem dX4_value_123 : decode cX4_value 123 = .ok (.getfield 13, 3) := by decide +kernel
theorem dX4_value_126 : decode cX4_value 126 = .ok (.iload_n 1, 1) := by decide +kernel
theorem dX4_value_127 : decode cX4_value 127 = .ok (.iload_n 3, 1) := by decide +kernel
theorem dX4_value_128 : decode cX4_value 128 = .ok (.sipush 1000, 3) := by decide +kernel
theorem dX4_value_13 : decode cX4_value 13 = .ok (.aload_n 0, 1) := by decide +kernel
theorem dX4_value_131 : decode cX4_value 131 = .ok (.if_icmp .ge 7, 3) := by decide +kernel
theorem dX4_value_134 : decode cX4_value 134 = .ok (.iload_n 3, 1) := by decide +kernel
theorem dX4_value_135 : decode cX4_value 135 = .ok (.goto 17, 3) := by decide +kernel
theorem dX4_value_138 : decode cX4_value 138 = .ok (.aload_n 0, 1) := by decide +kernel
theorem dX4_value_139 : decode cX4_value 139 = .ok (.getfield 9, 3) := by decide +kernel
theorem dX4_value_14 : decode cX4_value 14 = .ok (.getfield 25, 3) := by decide +kernel
theorem dX4_value_142 : decode cX4_value 142 = .ok (.iload_n 3, 1) := by decide +kernel
theorem dX4_value_143 : decode cX4_value 143 = .ok (.sipush 1000, 3) := by decide +kernel
theorem dX4_value_146 : decode cX4_value 146 = .ok (.isub, 1) := by decide +kernel
theorem dX4_value_147 : decode cX4_value 147 = .ok (.iconst 5, 1) := by decide +kernel
theorem dX4_value_148 : decode cX4_value 148 = .ok (.invokestatic 16, 3) := by decide +kernel
theorem dX4_value_151 : decode cX4_value 151 = .ok (.iaload, 1) := by decide +kernel
theorem dX4_value_152 : decode cX4_value 152 = .ok (.iastore, 1) := by decide +kernel
theorem dX4_value_153 : decode cX4_value 153 = .ok (.iinc 1 1, 3) := by decide +kernel
theorem dX4_value_156 : decode cX4_value 156 = .ok (.iinc 2 1, 3) := by decide +kernel
theorem dX4_value_159 : decode cX4_value 159 = .ok (.goto (-155), 3) := by decide +kernel
theorem dX4_value_162 : decode cX4_value 162 = .ok (.iload_n 1, 1) := by decide +kernel
theorem dX4_value_163 : decode cX4_value 163 = .ok (.ifCond .le 12, 3) := by decide +kernel
theorem dX4_value_166 : decode cX4_value 166 = .ok (.aload_n 0, 1) := by decide +kernel
theorem dX4_value_167 : decode cX4_value 167 = .ok (.getfield 13, 3) := by decide +kernel
theorem dX4_value_17 : decode cX4_value 17 = .ok (.iload_n 2, 1) := by decide +kernel
theorem dX4_value_170 : decode cX4_value 170 = .ok (.iconst 0, 1) := by decide +kernel
theorem dX4_value_171 : decode cX4_value 171 = .ok (.iaload, 1) := by decide +kernel
theorem dX4_value_172 : decode cX4_value 172 = .ok (.goto 4, 3) := by decide +kernel
theorem dX4_value_175 : decode cX4_value 175 = .ok (.iconst 0, 1) := by decide +kernel
theorem dX4_value_176 : decode cX4_value 176 = .ok (.ireturn, 1) := by decide +kernel
theorem dX4_value_18 : decode cX4_value 18 = .ok (.iaload, 1) := by decide +kernel
theorem dX4_value_19 : decode cX4_value 19 = .ok (.istore_n 3, 1) := by decide +kernel
theorem dX4_value_2 : decode cX4_value 2 = .ok (.iconst 0, 1) := by decide +kernel
theorem dX4_value_20 : decode cX4_value 20 = .ok (.iload_n 3, 1) := by decide +kernel
theorem dX4_value_21 : decode cX4_value 21 = .ok (.sipush 2000, 3) := by decide +kernel
theorem dX4_value_24 : decode cX4_value 24 = .ok (.if_icmp .ne 29, 3) := by decide +kernel
theorem dX4_value_27 : decode cX4_value 27 = .ok (.iload_n 1, 1) := by decide +kernel
theorem dX4_value_28 : decode cX4_value 28 = .ok (.iconst 1, 1) := by decide +kernel
theorem dX4_value_29 : decode cX4_value 29 = .ok (.if_icmp .lt 127, 3) := by decide +kernel
theorem dX4_value_3 : decode cX4_value 3 = .ok (.istore_n 2, 1) := by decide +kernel
theorem dX4_value_32 : decode cX4_value 32 = .ok (.aload_n 0, 1) := by decide +kernel
theorem dX4_value_33 : decode cX4_value 33 = .ok (.getfield 13, 3) := by decide +kernel
theorem dX4_value_36 : decode cX4_value 36 = .ok (.iload_n 1, 1) := by decide +kernel
theorem dX4_value_37 : decode cX4_value 37 = .ok (.iconst 1, 1) := by decide +kernel
theorem dX4_value_38 : decode cX4_value 38 = .ok (.isub, 1) := by decide +kernel
theorem dX4_value_39 : decode cX4_value 39 = .ok (.iconst 1, 1) := by decide +kernel
theorem dX4_value_4 : decode cX4_value 4 = .ok (.iload_n 2, 1) := by decide +kernel
theorem dX4_value_40 : decode cX4_value 40 = .ok (.aload_n 0, 1) := by decide +kernel
theorem dX4_value_41 : decode cX4_value 41 = .ok (.getfield 13, 3) := by decide +kernel
theorem dX4_value_44 : decode cX4_value 44 = .ok (.iload_n 1, 1) := by decide +kernel
theorem dX4_value_45 : decode cX4_value 45 = .ok (.iconst 1, 1) := by decide +kernel
theorem dX4_value_46 : decode cX4_value 46 = .ok (.isub, 1) := by decide +kernel
theorem dX4_value_47 : decode cX4_value 47 = .ok (.iaload, 1) := by decide +kernel
theorem dX4_value_48 : decode cX4_value 48 = .ok (.isub, 1) := by decide +kernel
theorem dX4_value_49 : decode cX4_value 49 = .ok (.iastore, 1) := by decide +kernel
theorem dX4_value_5 : decode cX4_value 5 = .ok (.aload_n 0, 1) := by decide +kernel
theorem dX4_value_50 : decode cX4_value 50 = .ok (.goto 106, 3) := by decide +kernel
theorem dX4_value_53 : decode cX4_value 53 = .ok (.iload_n 3, 1) := by decide +kernel
theorem dX4_value_54 : decode cX4_value 54 = .ok (.sipush 2000, 3) := by decide +kernel
theorem dX4_value_57 : decode cX4_value 57 = .ok (.if_icmp .le 59, 3) := by decide +kernel
theorem dX4_value_6 : decode cX4_value 6 = .ok (.getfield 25, 3) := by decide +kernel
theorem dX4_value_60 : decode cX4_value 60 = .ok (.iload_n 1, 1) := by decide +kernel
theorem dX4_value_61 : decode cX4_value 61 = .ok (.iconst 2, 1) := by decide +kernel
theorem dX4_value_62 : decode cX4_value 62 = .ok (.if_icmp .lt 94, 3) := by decide +kernel
theorem dX4_value_65 : decode cX4_value 65 = .ok (.iinc 1 (-1), 3) := by decide +kernel
theorem dX4_value_68 : decode cX4_value 68 = .ok (.iload_n 3, 1) := by decide +kernel
theorem dX4_value_69 : decode cX4_value 69 = .ok (.aload_n 0, 1) := by decide +kernel
theorem dX4_value_70 : decode cX4_value 70 = .ok (.getfield 13, 3) := by decide +kernel
theorem dX4_value_73 : decode cX4_value 73 = .ok (.iload_n 1, 1) := by decide +kernel
theorem dX4_value_74 : decode cX4_value 74 = .ok (.iconst 1, 1) := by decide +kernel
theorem dX4_value_75 : decode cX4_value 75 = .ok (.isub, 1) := by decide +kernel
theorem dX4_value_76 : decode cX4_value 76 = .ok (.iaload, 1) := by decide +kernel
theorem dX4_value_77 : decode cX4_value 77 = .ok (.i2l, 1) := by decide +kernel
theorem dX4_value_78 : decode cX4_value 78 = .ok (.aload_n 0, 1) := by decide +kernel
theorem dX4_value_79 : decode cX4_value 79 = .ok (.getfield 13, 3) := by decide +kernel
theorem dX4_value_82 : decode cX4_value 82 = .ok (.iload_n 1, 1) := by decide +kernel
theorem dX4_value_83 : decode cX4_value 83 = .ok (.iaload, 1) := by decide +kernel
theorem dX4_value_84 : decode cX4_value 84 = .ok (.i2l, 1) := by decide +kernel
theorem dX4_value_85 : decode cX4_value 85 = .ok (.invokestatic 34, 3) := by decide +kernel
theorem dX4_value_88 : decode cX4_value 88 = .ok (.lstore 4, 2) := by decide +kernel
theorem dX4_value_9 : decode cX4_value 9 = .ok (.arraylength, 1) := by decide +kernel
theorem dX4_value_90 : decode cX4_value 90 = .ok (.aload_n 0, 1) := by decide +kernel
theorem dX4_value_91 : decode cX4_value 91 = .ok (.getfield 13, 3) := by decide +kernel
theorem dX4_value_94 : decode cX4_value 94 = .ok (.iload_n 1, 1) := by decide +kernel
theorem dX4_value_95 : decode cX4_value 95 = .ok (.iconst 1, 1) := by decide +kernel
theorem dX4_value_96 : decode cX4_value 96 = .ok (.isub, 1) := by decide +kernel
theorem dX4_value_97 : decode cX4_value 97 = .ok (.ldc2_w 38, 3) := by decide +kernel
theorem dX6_begin_0 : decode cX6_begin 0 = .ok (.aload_n 0, 1) := by decide +kernel
theorem dX6_begin_1 : decode cX6_begin 1 = .ok (.aload_n 1, 1) := by decide +kernel
theorem dX6_begin_10 : decode cX6_begin 10 = .ok (.aload_n 0, 1) := by decide +kernel
theorem dX6_begin_11 : decode cX6_begin 11 = .ok (.iconst 0, 1) := by decide +kernel
theorem dX6_begin_12 : decode cX6_begin 12 = .ok (.putfield 35, 3) := by decide +kernel
theorem dX6_begin_15 : decode cX6_begin 15 = .ok (.iconst 0, 1) := by decide +kernel
theorem dX6_begin_16 : decode cX6_begin 16 = .ok (.istore_n 2, 1) := by decide +kernel
theorem dX6_begin_17 : decode cX6_begin 17 = .ok (.iload_n 2, 1) := by decide +kernel
theorem dX6_begin_18 : decode cX6_begin 18 = .ok (.iconst 4, 1) := by decide +kernel
theorem dX6_begin_19 : decode cX6_begin 19 = .ok (.if_icmp .ge 16, 3) := by decide +kernel
theorem dX6_begin_2 : decode cX6_begin 2 = .ok (.putfield 27, 3) := by decide +kernel
theorem dX6_begin_22 : decode cX6_begin 22 = .ok (.aload_n 0, 1) := by decide +kernel
theorem dX6_begin_23 : decode cX6_begin 23 = .ok (.getfield 24, 3) := by decide +kernel
theorem dX6_begin_26 : decode cX6_begin 26 = .ok (.iload_n 2, 1) := by decide +kernel
theorem dX6_begin_27 : decode cX6_begin 27 = .ok (.iconst 0, 1) := by decide +kernel
theorem dX6_begin_28 : decode cX6_begin 28 = .ok (.iastore, 1) := by decide +kernel
theorem dX6_begin_29 : decode cX6_begin 29 = .ok (.iinc 2 1, 3) := by decide +kernel
theorem dX6_begin_32 : decode cX6_begin 32 = .ok (.goto (-15), 3) := by decide +kernel
theorem dX6_begin_35 : decode cX6_begin 35 = .ok (.return_, 1) := by decide +kernel
theorem dX6_begin_5 : decode cX6_begin 5 = .ok (.aload_n 0, 1) := by decide +kernel
theorem dX6_begin_6 : decode cX6_begin 6 = .ok (.iconst 0, 1) := by decide +kernel
theorem dX6_begin_7 : decode cX6_begin 7 = .ok (.putfield 31, 3) := by decide +kernel
theorem dX6_copyFrom_0 : decode cX6_copyFrom 0 = .ok (.aload_n 0, 1) := by decide +kernel
theorem dX6_copyFrom_1 : decode cX6_copyFrom 1 = .ok (.aload_n 1, 1) := by decide +kernel
theorem dX6_copyFrom_10 : decode cX6_copyFrom 10 = .ok (.getfield 31, 3) := by decide +kernel
theorem dX6_copyFrom_13 : decode cX6_copyFrom 13 = .ok (.putfield 31, 3) := by decide +kernel
theorem dX6_copyFrom_16 : decode cX6_copyFrom 16 = .ok (.aload_n 0, 1) := by decide +kernel
theorem dX6_copyFrom_17 : decode cX6_copyFrom 17 = .ok (.aload_n 1, 1) := by decide +kernel
theorem dX6_copyFrom_18 : decode cX6_copyFrom 18 = .ok (.getfield 35, 3) := by decide +kernel
theorem dX6_copyFrom_2 : decode cX6_copyFrom 2 = .ok (.getfield 27, 3) := by decide +kernel
theorem dX6_copyFrom_21 : decode cX6_copyFrom 21 = .ok (.putfield 35, 3) := by decide +kernel
theorem dX6_copyFrom_24 : decode cX6_copyFrom 24 = .ok (.aload_n 1, 1) := by decide +kernel
theorem dX6_copyFrom_25 : decode cX6_copyFrom 25 = .ok (.getfield 9, 3) := by decide +kernel
theorem dX6_copyFrom_28 : decode cX6_copyFrom 28 = .ok (.iconst 0, 1) := by decide +kernel
theorem dX6_copyFrom_29 : decode cX6_copyFrom 29 = .ok (.aload_n 0, 1) := by decide +kernel
theorem dX6_copyFrom_30 : decode cX6_copyFrom 30 = .ok (.getfield 9, 3) := by decide +kernel
theorem dX6_copyFrom_33 : decode cX6_copyFrom 33 = .ok (.iconst 0, 1) := by decide +kernel
theorem dX6_copyFrom_34 : decode cX6_copyFrom 34 = .ok (.bipush 8, 2) := by decide +kernel
theorem dX6_copyFrom_36 : decode cX6_copyFrom 36 = .ok (.invokestatic 38, 3) := by decide +kernel
theorem dX6_copyFrom_39 : decode cX6_copyFrom 39 = .ok (.aload_n 1, 1) := by decide +kernel
theorem dX6_copyFrom_40 : decode cX6_copyFrom 40 = .ok (.getfield 15, 3) := by decide +kernel
theorem dX6_copyFrom_43 : decode cX6_copyFrom 43 = .ok (.iconst 0, 1) := by decide +kernel
theorem dX6_copyFrom_44 : decode cX6_copyFrom 44 = .ok (.aload_n 0, 1) := by decide +kernel
theorem dX6_copyFrom_45 : decode cX6_copyFrom 45 = .ok (.getfield 15, 3) := by decide +kernel
theorem dX6_copyFrom_48 : decode cX6_copyFrom 48 = .ok (.iconst 0, 1) := by decide +kernel
theorem dX6_copyFrom_49 : decode cX6_copyFrom 49 = .ok (.bipush 8, 2) := by decide +kernel
theorem dX6_copyFrom_5 : decode cX6_copyFrom 5 = .ok (.putfield 27, 3) := by decide +kernel
theorem dX6_copyFrom_51 : decode cX6_copyFrom 51 = .ok (.invokestatic 38, 3) := by decide +kernel
theorem dX6_copyFrom_54 : decode cX6_copyFrom 54 = .ok (.aload_n 1, 1) := by decide +kernel
theorem dX6_copyFrom_55 : decode cX6_copyFrom 55 = .ok (.getfield 18, 3) := by decide +kernel
theorem dX6_copyFrom_58 : decode cX6_copyFrom 58 = .ok (.iconst 0, 1) := by decide +kernel
theorem dX6_copyFrom_59 : decode cX6_copyFrom 59 = .ok (.aload_n 0, 1) := by decide +kernel
theorem dX6_copyFrom_60 : decode cX6_copyFrom 60 = .ok (.getfield 18, 3) := by decide +kernel
theorem dX6_copyFrom_63 : decode cX6_copyFrom 63 = .ok (.iconst 0, 1) := by decide +kernel
theorem dX6_copyFrom_64 : decode cX6_copyFrom 64 = .ok (.bipush 8, 2) := by decide +kernel
theorem dX6_copyFrom_66 : decode cX6_copyFrom 66 = .ok (.invokestatic 38, 3) := by decide +kernel
theorem dX6_copyFrom_69 : decode cX6_copyFrom 69 = .ok (.aload_n 1, 1) := by decide +kernel
theorem dX6_copyFrom_70 : decode cX6_copyFrom 70 = .ok (.getfield 21, 3) := by decide +kernel
theorem dX6_copyFrom_73 : decode cX6_copyFrom 73 = .ok (.iconst 0, 1) := by decide +kernel
theorem dX6_copyFrom_74 : decode cX6_copyFrom 74 = .ok (.aload_n 0, 1) := by decide +kernel
theorem dX6_copyFrom_75 : decode cX6_copyFrom 75 = .ok (.getfield 21, 3) := by decide +kernel
theorem dX6_copyFrom_78 : decode cX6_copyFrom 78 = .ok (.iconst 0, 1) := by decide +kernel
theorem dX6_copyFrom_79 : decode cX6_copyFrom 79 = .ok (.bipush 8, 2) := by decide +kernel
theorem dX6_copyFrom_8 : decode cX6_copyFrom 8 = .ok (.aload_n 0, 1) := by decide +kernel
theorem dX6_copyFrom_81 : decode cX6_copyFrom 81 = .ok (.invokestatic 38, 3) := by decide +kernel
theorem dX6_copyFrom_84 : decode cX6_copyFrom 84 = .ok (.aload_n 1, 1) := by decide +kernel
theorem dX6_copyFrom_85 : decode cX6_copyFrom 85 = .ok (.getfield 24, 3) := by decide +kernel
theorem dX6_copyFrom_88 : decode cX6_copyFrom 88 = .ok (.iconst 0, 1) := by decide +kernel
theorem dX6_copyFrom_89 : decode cX6_copyFrom 89 = .ok (.aload_n 0, 1) := by decide +kernel
theorem dX6_copyFrom_9 : decode cX6_copyFrom 9 = .ok (.aload_n 1, 1) := by decide +kernel
theorem dX6_copyFrom_90 : decode cX6_copyFrom 90 = .ok (.getfield 24, 3) := by decide +kernel
theorem dX6_copyFrom_93 : decode cX6_copyFrom 93 = .ok (.iconst 0, 1) := by decide +kernel
theorem dX6_copyFrom_94 : decode cX6_copyFrom 94 = .ok (.iconst 4, 1) := by decide +kernel
theorem dX6_copyFrom_95 : decode cX6_copyFrom 95 = .ok (.invokestatic 38, 3) := by decide +kernel
theorem dX6_copyFrom_98 : decode cX6_copyFrom 98 = .ok (.return_, 1) := by decide +kernel
theorem dX6_countOf_0 : decode cX6_countOf 0 = .ok (.iconst 0, 1) := by decide +kernel
theorem dX6_countOf_1 : decode cX6_countOf 1 = .ok (.istore_n 2, 1) := by decide +kernel
theorem dX6_countOf_12 : decode cX6_countOf 12 = .ok (.if_icmp .ge 22, 3) := by decide +kernel
theorem dX6_countOf_15 : decode cX6_countOf 15 = .ok (.aload_n 0, 1) := by decide +kernel
theorem dX6_countOf_16 : decode cX6_countOf 16 = .ok (.getfield 9, 3) := by decide +kernel
theorem dX6_countOf_19 : decode cX6_countOf 19 = .ok (.iload_n 3, 1) := by decide +kernel
theorem dX6_countOf_2 : decode cX6_countOf 2 = .ok (.iconst 0, 1) := by decide +kernel
theorem dX6_countOf_20 : decode cX6_countOf 20 = .ok (.iaload, 1) := by decide +kernel
theorem dX6_countOf_21 : decode cX6_countOf 21 = .ok (.iload_n 1, 1) := by decide +kernel
theorem dX6_countOf_22 : decode cX6_countOf 22 = .ok (.if_icmp .ne 6, 3) := by decide +kernel
theorem dX6_countOf_25 : decode cX6_countOf 25 = .ok (.iinc 2 1, 3) := by decide +kernel
theorem dX6_countOf_28 : decode cX6_countOf 28 = .ok (.iinc 3 1, 3) := by decide +kernel
theorem dX6_countOf_3 : decode cX6_countOf 3 = .ok (.istore_n 3, 1) := by decide +kernel
theorem dX6_countOf_31 : decode cX6_countOf 31 = .ok (.goto (-27), 3) := by decide +kernel
theorem dX6_countOf_34 : decode cX6_countOf 34 = .ok (.iload_n 2, 1) := by decide +kernel
theorem dX6_countOf_35 : decode cX6_countOf 35 = .ok (.ireturn, 1) := by decide +kernel
theorem dX6_countOf_4 : decode cX6_countOf 4 = .ok (.iload_n 3, 1) := by decide +kernel
theorem dX6_countOf_5 : decode cX6_countOf 5 = .ok (.aload_n 0, 1) := by decide +kernel
theorem dX6_countOf_6 : decode cX6_countOf 6 = .ok (.getfield 27, 3) := by decide +kernel
theorem dX6_countOf_9 : decode cX6_countOf 9 = .ok (.getfield 44, 3) := by decide +kernel
theorem dX6_drop_0 : decode cX6_drop 0 = .ok (.aload_n 0, 1) := by decide +kernel
theorem dX6_drop_1 : decode cX6_drop 1 = .ok (.iload_n 1, 1) := by decide +kernel
theorem dX6_drop_100 : decode cX6_drop 100 = .ok (.iload 6, 2) := by decide +kernel
theorem dX6_drop_102 : decode cX6_drop 102 = .ok (.aload_n 0, 1) := by decide +kernel
theorem dX6_drop_103 : decode cX6_drop 103 = .ok (.getfield 27, 3) := by decide +kernel
theorem dX6_drop_106 : decode cX6_drop 106 = .ok (.getfield 49, 3) := by decide +kernel
theorem dX6_drop_109 : decode cX6_drop 109 = .ok (.if_icmp .ge 38, 3) := by decide +kernel
theorem dX6_drop_112 : decode cX6_drop 112 = .ok (.aload_n 0, 1) := by decide +kernel
theorem dX6_drop_113 : decode cX6_drop 113 = .ok (.getfield 27, 3) := by decide +kernel
theorem dX6_drop_116 : decode cX6_drop 116 = .ok (.iload 6, 2) := by decide +kernel
theorem dX6_drop_118 : decode cX6_drop 118 = .ok (.aload_n 0, 1) := by decide +kernel
theorem dX6_drop_119 : decode cX6_drop 119 = .ok (.getfield 31, 3) := by decide +kernel
theorem dX6_drop_12 : decode cX6_drop 12 = .ok (.istore 4, 2) := by decide +kernel
theorem dX6_drop_122 : decode cX6_drop 122 = .ok (.invokevirtual 108, 3) := by decide +kernel
theorem dX6_drop_125 : decode cX6_drop 125 = .ok (.iload_n 1, 1) := by decide +kernel
theorem dX6_drop_126 : decode cX6_drop 126 = .ok (.if_icmp .ne 15, 3) := by decide +kernel
theorem dX6_drop_129 : decode cX6_drop 129 = .ok (.aload_n 0, 1) := by decide +kernel
theorem dX6_drop_130 : decode cX6_drop 130 = .ok (.getfield 24, 3) := by decide +kernel
theorem dX6_drop_133 : decode cX6_drop 133 = .ok (.iload 6, 2) := by decide +kernel
theorem dX6_drop_135 : decode cX6_drop 135 = .ok (.dup2, 1) := by decide +kernel
theorem dX6_drop_136 : decode cX6_drop 136 = .ok (.iaload, 1) := by decide +kernel
theorem dX6_drop_137 : decode cX6_drop 137 = .ok (.iload 5, 2) := by decide +kernel
theorem dX6_drop_139 : decode cX6_drop 139 = .ok (.iadd, 1) := by decide +kernel
theorem dX6_drop_14 : decode cX6_drop 14 = .ok (.iconst 0, 1) := by decide +kernel
theorem dX6_drop_140 : decode cX6_drop 140 = .ok (.iastore, 1) := by decide +kernel
theorem dX6_drop_141 : decode cX6_drop 141 = .ok (.iinc 6 1, 3) := by decide +kernel
theorem dX6_drop_144 : decode cX6_drop 144 = .ok (.goto (-44), 3) := by decide +kernel
theorem dX6_drop_147 : decode cX6_drop 147 = .ok (.aload_n 0, 1) := by decide +kernel
theorem dX6_drop_148 : decode cX6_drop 148 = .ok (.dup, 1) := by decide +kernel
theorem dX6_drop_149 : decode cX6_drop 149 = .ok (.getfield 35, 3) := by decide +kernel
theorem dX6_drop_15 : decode cX6_drop 15 = .ok (.istore 5, 2) := by decide +kernel
theorem dX6_drop_152 : decode cX6_drop 152 = .ok (.iload_n 3, 1) := by decide +kernel
theorem dX6_drop_153 : decode cX6_drop 153 = .ok (.ior, 1) := by decide +kernel
theorem dX6_drop_154 : decode cX6_drop 154 = .ok (.putfield 35, 3) := by decide +kernel
theorem dX6_drop_157 : decode cX6_drop 157 = .ok (.return_, 1) := by decide +kernel
theorem dX6_drop_17 : decode cX6_drop 17 = .ok (.iload 5, 2) := by decide +kernel
theorem dX6_drop_19 : decode cX6_drop 19 = .ok (.aload_n 0, 1) := by decide +kernel
theorem dX6_drop_2 : decode cX6_drop 2 = .ok (.iload_n 2, 1) := by decide +kernel
theorem dX6_drop_20 : decode cX6_drop 20 = .ok (.getfield 27, 3) := by decide +kernel
theorem dX6_drop_23 : decode cX6_drop 23 = .ok (.getfield 102, 3) := by decide +kernel
theorem dX6_drop_26 : decode cX6_drop 26 = .ok (.if_icmp .ge 63, 3) := by decide +kernel
theorem dX6_drop_29 : decode cX6_drop 29 = .ok (.aload_n 0, 1) := by decide +kernel
theorem dX6_drop_3 : decode cX6_drop 3 = .ok (.invokevirtual 99, 3) := by decide +kernel
theorem dX6_drop_30 : decode cX6_drop 30 = .ok (.iload_n 1, 1) := by decide +kernel
theorem dX6_drop_31 : decode cX6_drop 31 = .ok (.iload 5, 2) := by decide +kernel
theorem dX6_drop_33 : decode cX6_drop 33 = .ok (.invokevirtual 59, 3) := by decide +kernel
theorem dX6_drop_36 : decode cX6_drop 36 = .ok (.istore 6, 2) := by decide +kernel
theorem dX6_drop_38 : decode cX6_drop 38 = .ok (.iload 6, 2) := by decide +kernel
theorem dX6_drop_40 : decode cX6_drop 40 = .ok (.ifCond .lt 43, 3) := by decide +kernel
theorem dX6_drop_43 : decode cX6_drop 43 = .ok (.iload_n 3, 1) := by decide +kernel
theorem dX6_drop_44 : decode cX6_drop 44 = .ok (.iload 6, 2) := by decide +kernel
theorem dX6_drop_46 : decode cX6_drop 46 = .ok (.ishr, 1) := by decide +kernel
theorem dX6_drop_47 : decode cX6_drop 47 = .ok (.iconst 1, 1) := by decide +kernel
theorem dX6_drop_48 : decode cX6_drop 48 = .ok (.iand, 1) := by decide +kernel
theorem dX6_drop_49 : decode cX6_drop 49 = .ok (.ifCond .eq 34, 3) := by decide +kernel
theorem dX6_drop_52 : decode cX6_drop 52 = .ok (.aload_n 0, 1) := by decide +kernel
theorem dX6_drop_53 : decode cX6_drop 53 = .ok (.getfield 9, 3) := by decide +kernel
theorem dX6_drop_56 : decode cX6_drop 56 = .ok (.iload 6, 2) := by decide +kernel
theorem dX6_drop_58 : decode cX6_drop 58 = .ok (.iaload, 1) := by decide +kernel
theorem dX6_drop_59 : decode cX6_drop 59 = .ok (.iconst 1, 1) := by decide +kernel
theorem dX6_drop_6 : decode cX6_drop 6 = .ok (.istore_n 3, 1) := by decide +kernel
theorem dX6_drop_60 : decode cX6_drop 60 = .ok (.if_icmp .ne 23, 3) := by decide +kernel
theorem dX6_drop_63 : decode cX6_drop 63 = .ok (.aload_n 0, 1) := by decide +kernel
theorem dX6_drop_64 : decode cX6_drop 64 = .ok (.getfield 9, 3) := by decide +kernel
theorem dX6_drop_67 : decode cX6_drop 67 = .ok (.iload 6, 2) := by decide +kernel
theorem dX6_drop_69 : decode cX6_drop 69 = .ok (.iconst 2, 1) := by decide +kernel
theorem dX6_drop_7 : decode cX6_drop 7 = .ok (.aload_n 0, 1) := by decide +kernel
theorem dX6_drop_70 : decode cX6_drop 70 = .ok (.iastore, 1) := by decide +kernel
theorem dX6_drop_71 : decode cX6_drop 71 = .ok (.aload_n 0, 1) := by decide +kernel
theorem dX6_drop_72 : decode cX6_drop 72 = .ok (.getfield 18, 3) := by decide +kernel
theorem dX6_drop_75 : decode cX6_drop 75 = .ok (.iload 6, 2) := by decide +kernel
theorem dX6_drop_77 : decode cX6_drop 77 = .ok (.iload 4, 2) := by decide +kernel
theorem dX6_drop_79 : decode cX6_drop 79 = .ok (.iastore, 1) := by decide +kernel
theorem dX6_drop_8 : decode cX6_drop 8 = .ok (.iload_n 1, 1) := by decide +kernel
theorem dX6_drop_80 : decode cX6_drop 80 = .ok (.iinc 4 1, 3) := by decide +kernel
theorem dX6_drop_83 : decode cX6_drop 83 = .ok (.iinc 5 1, 3) := by decide +kernel
theorem dX6_drop_86 : decode cX6_drop 86 = .ok (.goto (-69), 3) := by decide +kernel
theorem dX6_drop_89 : decode cX6_drop 89 = .ok (.aload_n 0, 1) := by decide +kernel
theorem dX6_drop_9 : decode cX6_drop 9 = .ok (.invokevirtual 55, 3) := by decide +kernel
theorem dX6_drop_90 : decode cX6_drop 90 = .ok (.iload_n 3, 1) := by decide +kernel
theorem dX6_drop_91 : decode cX6_drop 91 = .ok (.iload_n 1, 1) := by decide +kernel
theorem dX6_drop_92 : decode cX6_drop 92 = .ok (.invokevirtual 105, 3) := by decide +kernel
theorem dX6_drop_95 : decode cX6_drop 95 = .ok (.istore 5, 2) := by decide +kernel
theorem dX6_drop_97 : decode cX6_drop 97 = .ok (.iconst 0, 1) := by decide +kernel
theorem dX6_drop_98 : decode cX6_drop 98 = .ok (.istore 6, 2) := by decide +kernel
theorem dX6_dueIn_0 : decode cX6_dueIn 0 = .ok (.iconst 0, 1) := by decide +kernel
theorem dX6_dueIn_1 : decode cX6_dueIn 1 = .ok (.istore_n 3, 1) := by decide +kernel
theorem dX6_dueIn_11 : decode cX6_dueIn 11 = .ok (.getfield 44, 3) := by decide +kernel
theorem dX6_dueIn_14 : decode cX6_dueIn 14 = .ok (.if_icmp .ge 49, 3) := by decide +kernel
theorem dX6_dueIn_17 : decode cX6_dueIn 17 = .ok (.aload_n 0, 1) := by decide +kernel
theorem dX6_dueIn_18 : decode cX6_dueIn 18 = .ok (.getfield 9, 3) := by decide +kernel
theorem dX6_dueIn_2 : decode cX6_dueIn 2 = .ok (.iconst 0, 1) := by decide +kernel
theorem dX6_dueIn_21 : decode cX6_dueIn 21 = .ok (.iload 4, 2) := by decide +kernel
theorem dX6_dueIn_23 : decode cX6_dueIn 23 = .ok (.iaload, 1) := by decide +kernel
theorem dX6_dueIn_24 : decode cX6_dueIn 24 = .ok (.iconst 1, 1) := by decide +kernel
theorem dX6_dueIn_25 : decode cX6_dueIn 25 = .ok (.if_icmp .ne 32, 3) := by decide +kernel
theorem dX6_dueIn_28 : decode cX6_dueIn 28 = .ok (.aload_n 0, 1) := by decide +kernel
theorem dX6_dueIn_29 : decode cX6_dueIn 29 = .ok (.getfield 15, 3) := by decide +kernel
theorem dX6_dueIn_3 : decode cX6_dueIn 3 = .ok (.istore 4, 2) := by decide +kernel
theorem dX6_dueIn_32 : decode cX6_dueIn 32 = .ok (.iload 4, 2) := by decide +kernel
theorem dX6_dueIn_34 : decode cX6_dueIn 34 = .ok (.iaload, 1) := by decide +kernel
theorem dX6_dueIn_35 : decode cX6_dueIn 35 = .ok (.iload_n 1, 1) := by decide +kernel
theorem dX6_dueIn_36 : decode cX6_dueIn 36 = .ok (.if_icmp .ne 21, 3) := by decide +kernel
theorem dX6_dueIn_39 : decode cX6_dueIn 39 = .ok (.aload_n 0, 1) := by decide +kernel
theorem dX6_dueIn_40 : decode cX6_dueIn 40 = .ok (.getfield 21, 3) := by decide +kernel
theorem dX6_dueIn_43 : decode cX6_dueIn 43 = .ok (.iload 4, 2) := by decide +kernel
theorem dX6_dueIn_45 : decode cX6_dueIn 45 = .ok (.iaload, 1) := by decide +kernel
theorem dX6_dueIn_46 : decode cX6_dueIn 46 = .ok (.iload_n 2, 1) := by decide +kernel
theorem dX6_dueIn_47 : decode cX6_dueIn 47 = .ok (.if_icmp .gt 10, 3) := by decide +kernel
theorem dX6_dueIn_5 : decode cX6_dueIn 5 = .ok (.iload 4, 2) := by decide +kernel
theorem dX6_dueIn_50 : decode cX6_dueIn 50 = .ok (.iload_n 3, 1) := by decide +kernel
theorem dX6_dueIn_51 : decode cX6_dueIn 51 = .ok (.iconst 1, 1) := by decide +kernel
theorem dX6_dueIn_52 : decode cX6_dueIn 52 = .ok (.iload 4, 2) := by decide +kernel
theorem dX6_dueIn_54 : decode cX6_dueIn 54 = .ok (.ishl, 1) := by decide +kernel
theorem dX6_dueIn_55 : decode cX6_dueIn 55 = .ok (.ior, 1) := by decide +kernel
theorem dX6_dueIn_56 : decode cX6_dueIn 56 = .ok (.istore_n 3, 1) := by decide +kernel
theorem dX6_dueIn_57 : decode cX6_dueIn 57 = .ok (.iinc 4 1, 3) := by decide +kernel
theorem dX6_dueIn_60 : decode cX6_dueIn 60 = .ok (.goto (-55), 3) := by decide +kernel
theorem dX6_dueIn_63 : decode cX6_dueIn 63 = .ok (.iload_n 3, 1) := by decide +kernel
theorem dX6_dueIn_64 : decode cX6_dueIn 64 = .ok (.ireturn, 1) := by decide +kernel
theorem dX6_dueIn_7 : decode cX6_dueIn 7 = .ok (.aload_n 0, 1) := by decide +kernel
theorem dX6_dueIn_8 : decode cX6_dueIn 8 = .ok (.getfield 27, 3) := by decide +kernel
theorem dX6_falling_0 : decode cX6_falling 0 = .ok (.iload_n 2, 1) := by decide +kernel
theorem dX6_falling_1 : decode cX6_falling 1 = .ok (.istore_n 3, 1) := by decide +kernel
theorem dX6_falling_10 : decode cX6_falling 10 = .ok (.invokevirtual 55, 3) := by decide +kernel
theorem dX6_falling_101 : decode cX6_falling 101 = .ok (.iload_n 3, 1) := by decide +kernel
theorem dX6_falling_102 : decode cX6_falling 102 = .ok (.iconst 1, 1) := by decide +kernel
theorem dX6_falling_103 : decode cX6_falling 103 = .ok (.iload 7, 2) := by decide +kernel
theorem dX6_falling_105 : decode cX6_falling 105 = .ok (.ishl, 1) := by decide +kernel
theorem dX6_falling_106 : decode cX6_falling 106 = .ok (.ior, 1) := by decide +kernel
theorem dX6_falling_107 : decode cX6_falling 107 = .ok (.istore_n 3, 1) := by decide +kernel
theorem dX6_falling_108 : decode cX6_falling 108 = .ok (.iinc 7 1, 3) := by decide +kernel
theorem dX6_falling_111 : decode cX6_falling 111 = .ok (.goto (-80), 3) := by decide +kernel
theorem dX6_falling_114 : decode cX6_falling 114 = .ok (.iload_n 3, 1) := by decide +kernel
theorem dX6_falling_115 : decode cX6_falling 115 = .ok (.iload 6, 2) := by decide +kernel
theorem dX6_falling_117 : decode cX6_falling 117 = .ok (.if_icmp .ne 6, 3) := by decide +kernel
theorem dX6_falling_120 : decode cX6_falling 120 = .ok (.goto 9, 3) := by decide +kernel
theorem dX6_falling_123 : decode cX6_falling 123 = .ok (.iinc 5 1, 3) := by decide +kernel
theorem dX6_falling_126 : decode cX6_falling 126 = .ok (.goto (-108), 3) := by decide +kernel
theorem dX6_falling_129 : decode cX6_falling 129 = .ok (.iload_n 3, 1) := by decide +kernel
theorem dX6_falling_13 : decode cX6_falling 13 = .ok (.istore 4, 2) := by decide +kernel
theorem dX6_falling_130 : decode cX6_falling 130 = .ok (.ireturn, 1) := by decide +kernel
theorem dX6_falling_15 : decode cX6_falling 15 = .ok (.iconst 0, 1) := by decide +kernel
theorem dX6_falling_16 : decode cX6_falling 16 = .ok (.istore 5, 2) := by decide +kernel
theorem dX6_falling_18 : decode cX6_falling 18 = .ok (.iload 5, 2) := by decide +kernel
theorem dX6_falling_2 : decode cX6_falling 2 = .ok (.iload_n 2, 1) := by decide +kernel
theorem dX6_falling_20 : decode cX6_falling 20 = .ok (.bipush 8, 2) := by decide +kernel
theorem dX6_falling_22 : decode cX6_falling 22 = .ok (.if_icmp .ge 107, 3) := by decide +kernel
theorem dX6_falling_25 : decode cX6_falling 25 = .ok (.iload_n 3, 1) := by decide +kernel
theorem dX6_falling_26 : decode cX6_falling 26 = .ok (.istore 6, 2) := by decide +kernel
theorem dX6_falling_28 : decode cX6_falling 28 = .ok (.iconst 0, 1) := by decide +kernel
theorem dX6_falling_29 : decode cX6_falling 29 = .ok (.istore 7, 2) := by decide +kernel
theorem dX6_falling_3 : decode cX6_falling 3 = .ok (.ifCond .ne 5, 3) := by decide +kernel
theorem dX6_falling_31 : decode cX6_falling 31 = .ok (.iload 7, 2) := by decide +kernel
theorem dX6_falling_33 : decode cX6_falling 33 = .ok (.aload_n 0, 1) := by decide +kernel
theorem dX6_falling_34 : decode cX6_falling 34 = .ok (.getfield 27, 3) := by decide +kernel
theorem dX6_falling_37 : decode cX6_falling 37 = .ok (.getfield 44, 3) := by decide +kernel
theorem dX6_falling_40 : decode cX6_falling 40 = .ok (.if_icmp .ge 74, 3) := by decide +kernel
theorem dX6_falling_43 : decode cX6_falling 43 = .ok (.aload_n 0, 1) := by decide +kernel
theorem dX6_falling_44 : decode cX6_falling 44 = .ok (.getfield 9, 3) := by decide +kernel
theorem dX6_falling_47 : decode cX6_falling 47 = .ok (.iload 7, 2) := by decide +kernel
theorem dX6_falling_49 : decode cX6_falling 49 = .ok (.iaload, 1) := by decide +kernel
theorem dX6_falling_50 : decode cX6_falling 50 = .ok (.iconst 1, 1) := by decide +kernel
theorem dX6_falling_51 : decode cX6_falling 51 = .ok (.if_icmp .ne 57, 3) := by decide +kernel
theorem dX6_falling_54 : decode cX6_falling 54 = .ok (.aload_n 0, 1) := by decide +kernel
theorem dX6_falling_55 : decode cX6_falling 55 = .ok (.getfield 15, 3) := by decide +kernel
theorem dX6_falling_58 : decode cX6_falling 58 = .ok (.iload 7, 2) := by decide +kernel
theorem dX6_falling_6 : decode cX6_falling 6 = .ok (.iconst 0, 1) := by decide +kernel
theorem dX6_falling_60 : decode cX6_falling 60 = .ok (.iaload, 1) := by decide +kernel
theorem dX6_falling_61 : decode cX6_falling 61 = .ok (.iload_n 1, 1) := by decide +kernel
theorem dX6_falling_62 : decode cX6_falling 62 = .ok (.if_icmp .ne 46, 3) := by decide +kernel
theorem dX6_falling_65 : decode cX6_falling 65 = .ok (.iload_n 3, 1) := by decide +kernel
theorem dX6_falling_66 : decode cX6_falling 66 = .ok (.iload 7, 2) := by decide +kernel
theorem dX6_falling_68 : decode cX6_falling 68 = .ok (.ishr, 1) := by decide +kernel
theorem dX6_falling_69 : decode cX6_falling 69 = .ok (.iconst 1, 1) := by decide +kernel
theorem dX6_falling_7 : decode cX6_falling 7 = .ok (.ireturn, 1) := by decide +kernel
theorem dX6_falling_70 : decode cX6_falling 70 = .ok (.iand, 1) := by decide +kernel
theorem dX6_falling_71 : decode cX6_falling 71 = .ok (.ifCond .ne 37, 3) := by decide +kernel
theorem dX6_falling_74 : decode cX6_falling 74 = .ok (.aload_n 0, 1) := by decide +kernel
theorem dX6_falling_75 : decode cX6_falling 75 = .ok (.getfield 18, 3) := by decide +kernel
theorem dX6_falling_78 : decode cX6_falling 78 = .ok (.iload 7, 2) := by decide +kernel
theorem dX6_falling_8 : decode cX6_falling 8 = .ok (.aload_n 0, 1) := by decide +kernel
theorem dX6_falling_80 : decode cX6_falling 80 = .ok (.iaload, 1) := by decide +kernel
theorem dX6_falling_81 : decode cX6_falling 81 = .ok (.iload 4, 2) := by decide +kernel
theorem dX6_falling_83 : decode cX6_falling 83 = .ok (.iload_n 3, 1) := by decide +kernel
theorem dX6_falling_84 : decode cX6_falling 84 = .ok (.invokestatic 85, 3) := by decide +kernel
theorem dX6_falling_87 : decode cX6_falling 87 = .ok (.iadd, 1) := by decide +kernel
theorem dX6_falling_88 : decode cX6_falling 88 = .ok (.if_icmp .lt 13, 3) := by decide +kernel
theorem dX6_falling_9 : decode cX6_falling 9 = .ok (.iload_n 1, 1) := by decide +kernel
theorem dX6_falling_91 : decode cX6_falling 91 = .ok (.aload_n 0, 1) := by decide +kernel
theorem dX6_falling_92 : decode cX6_falling 92 = .ok (.iload 7, 2) := by decide +kernel
theorem dX6_falling_94 : decode cX6_falling 94 = .ok (.iload_n 3, 1) := by decide +kernel
theorem dX6_falling_95 : decode cX6_falling 95 = .ok (.invokevirtual 111, 3) := by decide +kernel
theorem dX6_falling_98 : decode cX6_falling 98 = .ok (.ifCond .eq 10, 3) := by decide +kernel
theorem dX6_isFree_0 : decode cX6_isFree 0 = .ok (.iload_n 2, 1) := by decide +kernel
theorem dX6_isFree_1 : decode cX6_isFree 1 = .ok (.aload_n 0, 1) := by decide +kernel
theorem dX6_isFree_10 : decode cX6_isFree 10 = .ok (.iload_n 1, 1) := by decide +kernel
theorem dX6_isFree_11 : decode cX6_isFree 11 = .ok (.iload_n 2, 1) := by decide +kernel
theorem dX6_isFree_12 : decode cX6_isFree 12 = .ok (.invokevirtual 59, 3) := by decide +kernel
theorem dX6_isFree_15 : decode cX6_isFree 15 = .ok (.iconst (-1), 1) := by decide +kernel
theorem dX6_isFree_16 : decode cX6_isFree 16 = .ok (.if_icmp .ne 7, 3) := by decide +kernel
theorem dX6_isFree_19 : decode cX6_isFree 19 = .ok (.iconst 1, 1) := by decide +kernel
theorem dX6_isFree_2 : decode cX6_isFree 2 = .ok (.iload_n 1, 1) := by decide +kernel
theorem dX6_isFree_20 : decode cX6_isFree 20 = .ok (.goto 4, 3) := by decide +kernel
theorem dX6_isFree_23 : decode cX6_isFree 23 = .ok (.iconst 0, 1) := by decide +kernel
theorem dX6_isFree_24 : decode cX6_isFree 24 = .ok (.ireturn, 1) := by decide +kernel
theorem dX6_isFree_3 : decode cX6_isFree 3 = .ok (.invokevirtual 55, 3) := by decide +kernel
theorem dX6_isFree_6 : decode cX6_isFree 6 = .ok (.if_icmp .lt 17, 3) := by decide +kernel
theorem dX6_isFree_9 : decode cX6_isFree 9 = .ok (.aload_n 0, 1) := by decide +kernel
theorem dX6_isFreed_0 : decode cX6_isFreed 0 = .ok (.aload_n 0, 1) := by decide +kernel
theorem dX6_isFreed_1 : decode cX6_isFreed 1 = .ok (.getfield 27, 3) := by decide +kernel
theorem dX6_isFreed_100 : decode cX6_isFreed 100 = .ok (.iastore, 1) := by decide +kernel
theorem dX6_isFreed_101 : decode cX6_isFreed 101 = .ok (.aload_n 3, 1) := by decide +kernel
theorem dX6_isFreed_102 : decode cX6_isFreed 102 = .ok (.getfield 118, 3) := by decide +kernel
theorem dX6_isFreed_105 : decode cX6_isFreed 105 = .ok (.iconst 3, 1) := by decide +kernel
theorem dX6_isFreed_106 : decode cX6_isFreed 106 = .ok (.aload_n 0, 1) := by decide +kernel
theorem dX6_isFreed_107 : decode cX6_isFreed 107 = .ok (.getfield 18, 3) := by decide +kernel
theorem dX6_isFreed_11 : decode cX6_isFreed 11 = .ok (.iload 4, 2) := by decide +kernel
theorem dX6_isFreed_110 : decode cX6_isFreed 110 = .ok (.iload_n 1, 1) := by decide +kernel
theorem dX6_isFreed_111 : decode cX6_isFreed 111 = .ok (.iaload, 1) := by decide +kernel
theorem dX6_isFreed_112 : decode cX6_isFreed 112 = .ok (.iastore, 1) := by decide +kernel
theorem dX6_isFreed_113 : decode cX6_isFreed 113 = .ok (.aload_n 3, 1) := by decide +kernel
theorem dX6_isFreed_114 : decode cX6_isFreed 114 = .ok (.getfield 118, 3) := by decide +kernel
theorem dX6_isFreed_117 : decode cX6_isFreed 117 = .ok (.iconst 4, 1) := by decide +kernel
theorem dX6_isFreed_118 : decode cX6_isFreed 118 = .ok (.aload_n 0, 1) := by decide +kernel
theorem dX6_isFreed_119 : decode cX6_isFreed 119 = .ok (.getfield 31, 3) := by decide +kernel
theorem dX6_isFreed_122 : decode cX6_isFreed 122 = .ok (.bipush 24, 2) := by decide +kernel
theorem dX6_isFreed_124 : decode cX6_isFreed 124 = .ok (.invokestatic 123, 3) := by decide +kernel
theorem dX6_isFreed_127 : decode cX6_isFreed 127 = .ok (.iastore, 1) := by decide +kernel
theorem dX6_isFreed_128 : decode cX6_isFreed 128 = .ok (.aload_n 3, 1) := by decide +kernel
theorem dX6_isFreed_129 : decode cX6_isFreed 129 = .ok (.invokevirtual 126, 3) := by decide +kernel
theorem dX6_isFreed_13 : decode cX6_isFreed 13 = .ok (.aload_n 0, 1) := by decide +kernel
theorem dX6_isFreed_132 : decode cX6_isFreed 132 = .ok (.ifCond .eq 5, 3) := by decide +kernel
theorem dX6_isFreed_135 : decode cX6_isFreed 135 = .ok (.iconst 1, 1) := by decide +kernel
theorem dX6_isFreed_136 : decode cX6_isFreed 136 = .ok (.ireturn, 1) := by decide +kernel
theorem dX6_isFreed_137 : decode cX6_isFreed 137 = .ok (.iinc 4 1, 3) := by decide +kernel
theorem dX6_isFreed_14 : decode cX6_isFreed 14 = .ok (.getfield 27, 3) := by decide +kernel
theorem dX6_isFreed_140 : decode cX6_isFreed 140 = .ok (.goto (-129), 3) := by decide +kernel
theorem dX6_isFreed_143 : decode cX6_isFreed 143 = .ok (.iconst 0, 1) := by decide +kernel
theorem dX6_isFreed_144 : decode cX6_isFreed 144 = .ok (.ireturn, 1) := by decide +kernel
theorem dX6_isFreed_17 : decode cX6_isFreed 17 = .ok (.getfield 44, 3) := by decide +kernel
theorem dX6_isFreed_20 : decode cX6_isFreed 20 = .ok (.if_icmp .ge 123, 3) := by decide +kernel
theorem dX6_isFreed_23 : decode cX6_isFreed 23 = .ok (.iload_n 2, 1) := by decide +kernel
theorem dX6_isFreed_24 : decode cX6_isFreed 24 = .ok (.iload 4, 2) := by decide +kernel
theorem dX6_isFreed_26 : decode cX6_isFreed 26 = .ok (.ishr, 1) := by decide +kernel
theorem dX6_isFreed_27 : decode cX6_isFreed 27 = .ok (.iconst 1, 1) := by decide +kernel
theorem dX6_isFreed_28 : decode cX6_isFreed 28 = .ok (.iand, 1) := by decide +kernel
theorem dX6_isFreed_29 : decode cX6_isFreed 29 = .ok (.ifCond .eq 108, 3) := by decide +kernel
theorem dX6_isFreed_32 : decode cX6_isFreed 32 = .ok (.aload_n 0, 1) := by decide +kernel
theorem dX6_isFreed_33 : decode cX6_isFreed 33 = .ok (.getfield 18, 3) := by decide +kernel
theorem dX6_isFreed_36 : decode cX6_isFreed 36 = .ok (.iload 4, 2) := by decide +kernel
theorem dX6_isFreed_38 : decode cX6_isFreed 38 = .ok (.iaload, 1) := by decide +kernel
theorem dX6_isFreed_39 : decode cX6_isFreed 39 = .ok (.aload_n 0, 1) := by decide +kernel
theorem dX6_isFreed_4 : decode cX6_isFreed 4 = .ok (.getfield 114, 3) := by decide +kernel
theorem dX6_isFreed_40 : decode cX6_isFreed 40 = .ok (.getfield 18, 3) := by decide +kernel
theorem dX6_isFreed_43 : decode cX6_isFreed 43 = .ok (.iload_n 1, 1) := by decide +kernel
theorem dX6_isFreed_44 : decode cX6_isFreed 44 = .ok (.iaload, 1) := by decide +kernel
theorem dX6_isFreed_45 : decode cX6_isFreed 45 = .ok (.if_icmp .gt 6, 3) := by decide +kernel
theorem dX6_isFreed_48 : decode cX6_isFreed 48 = .ok (.goto 89, 3) := by decide +kernel
theorem dX6_isFreed_51 : decode cX6_isFreed 51 = .ok (.aload_n 3, 1) := by decide +kernel
theorem dX6_isFreed_52 : decode cX6_isFreed 52 = .ok (.ifnonnull 5, 3) := by decide +kernel
theorem dX6_isFreed_55 : decode cX6_isFreed 55 = .ok (.iconst 1, 1) := by decide +kernel
theorem dX6_isFreed_56 : decode cX6_isFreed 56 = .ok (.ireturn, 1) := by decide +kernel
theorem dX6_isFreed_57 : decode cX6_isFreed 57 = .ok (.aload_n 3, 1) := by decide +kernel
theorem dX6_isFreed_58 : decode cX6_isFreed 58 = .ok (.getfield 118, 3) := by decide +kernel
theorem dX6_isFreed_61 : decode cX6_isFreed 61 = .ok (.iconst 0, 1) := by decide +kernel
theorem dX6_isFreed_62 : decode cX6_isFreed 62 = .ok (.aload_n 0, 1) := by decide +kernel
theorem dX6_isFreed_63 : decode cX6_isFreed 63 = .ok (.getfield 27, 3) := by decide +kernel
theorem dX6_isFreed_66 : decode cX6_isFreed 66 = .ok (.getfield 52, 3) := by decide +kernel
theorem dX6_isFreed_69 : decode cX6_isFreed 69 = .ok (.iload 4, 2) := by decide +kernel
theorem dX6_isFreed_7 : decode cX6_isFreed 7 = .ok (.astore_n 3, 1) := by decide +kernel
theorem dX6_isFreed_71 : decode cX6_isFreed 71 = .ok (.iaload, 1) := by decide +kernel
theorem dX6_isFreed_72 : decode cX6_isFreed 72 = .ok (.iastore, 1) := by decide +kernel
theorem dX6_isFreed_73 : decode cX6_isFreed 73 = .ok (.aload_n 3, 1) := by decide +kernel
theorem dX6_isFreed_74 : decode cX6_isFreed 74 = .ok (.getfield 118, 3) := by decide +kernel
theorem dX6_isFreed_77 : decode cX6_isFreed 77 = .ok (.iconst 1, 1) := by decide +kernel
theorem dX6_isFreed_78 : decode cX6_isFreed 78 = .ok (.aload_n 0, 1) := by decide +kernel
theorem dX6_isFreed_79 : decode cX6_isFreed 79 = .ok (.getfield 27, 3) := by decide +kernel
theorem dX6_isFreed_8 : decode cX6_isFreed 8 = .ok (.iconst 0, 1) := by decide +kernel
theorem dX6_isFreed_82 : decode cX6_isFreed 82 = .ok (.getfield 52, 3) := by decide +kernel
theorem dX6_isFreed_85 : decode cX6_isFreed 85 = .ok (.iload_n 1, 1) := by decide +kernel
theorem dX6_isFreed_86 : decode cX6_isFreed 86 = .ok (.iaload, 1) := by decide +kernel
theorem dX6_isFreed_87 : decode cX6_isFreed 87 = .ok (.iastore, 1) := by decide +kernel
theorem dX6_isFreed_88 : decode cX6_isFreed 88 = .ok (.aload_n 3, 1) := by decide +kernel
theorem dX6_isFreed_89 : decode cX6_isFreed 89 = .ok (.getfield 118, 3) := by decide +kernel
theorem dX6_isFreed_9 : decode cX6_isFreed 9 = .ok (.istore 4, 2) := by decide +kernel
theorem dX6_isFreed_92 : decode cX6_isFreed 92 = .ok (.iconst 2, 1) := by decide +kernel
theorem dX6_isFreed_93 : decode cX6_isFreed 93 = .ok (.aload_n 0, 1) := by decide +kernel
theorem dX6_isFreed_94 : decode cX6_isFreed 94 = .ok (.getfield 18, 3) := by decide +kernel
theorem dX6_isFreed_97 : decode cX6_isFreed 97 = .ok (.iload 4, 2) := by decide +kernel
theorem dX6_isFreed_99 : decode cX6_isFreed 99 = .ok (.iaload, 1) := by decide +kernel
theorem dX6_lying_0 : decode cX6_lying 0 = .ok (.iconst 0, 1) := by decide +kernel
theorem dX6_lying_1 : decode cX6_lying 1 = .ok (.istore_n 2, 1) := by decide +kernel
theorem dX6_lying_12 : decode cX6_lying 12 = .ok (.if_icmp .ge 32, 3) := by decide +kernel
theorem dX6_lying_15 : decode cX6_lying 15 = .ok (.aload_n 0, 1) := by decide +kernel
theorem dX6_lying_16 : decode cX6_lying 16 = .ok (.getfield 9, 3) := by decide +kernel
theorem dX6_lying_19 : decode cX6_lying 19 = .ok (.iload_n 3, 1) := by decide +kernel
theorem dX6_lying_2 : decode cX6_lying 2 = .ok (.iconst 0, 1) := by decide +kernel
theorem dX6_lying_20 : decode cX6_lying 20 = .ok (.iaload, 1) := by decide +kernel
theorem dX6_lying_21 : decode cX6_lying 21 = .ok (.iconst 2, 1) := by decide +kernel
theorem dX6_lying_22 : decode cX6_lying 22 = .ok (.if_icmp .ne 16, 3) := by decide +kernel
theorem dX6_lying_25 : decode cX6_lying 25 = .ok (.aload_n 0, 1) := by decide +kernel
theorem dX6_lying_26 : decode cX6_lying 26 = .ok (.getfield 15, 3) := by decide +kernel
theorem dX6_lying_29 : decode cX6_lying 29 = .ok (.iload_n 3, 1) := by decide +kernel
theorem dX6_lying_3 : decode cX6_lying 3 = .ok (.istore_n 3, 1) := by decide +kernel
theorem dX6_lying_30 : decode cX6_lying 30 = .ok (.iaload, 1) := by decide +kernel
theorem dX6_lying_31 : decode cX6_lying 31 = .ok (.iload_n 1, 1) := by decide +kernel
theorem dX6_lying_32 : decode cX6_lying 32 = .ok (.if_icmp .ne 6, 3) := by decide +kernel
theorem dX6_lying_35 : decode cX6_lying 35 = .ok (.iinc 2 1, 3) := by decide +kernel
theorem dX6_lying_38 : decode cX6_lying 38 = .ok (.iinc 3 1, 3) := by decide +kernel
theorem dX6_lying_4 : decode cX6_lying 4 = .ok (.iload_n 3, 1) := by decide +kernel
theorem dX6_lying_41 : decode cX6_lying 41 = .ok (.goto (-37), 3) := by decide +kernel
theorem dX6_lying_44 : decode cX6_lying 44 = .ok (.iload_n 2, 1) := by decide +kernel
theorem dX6_lying_45 : decode cX6_lying 45 = .ok (.ireturn, 1) := by decide +kernel
theorem dX6_lying_5 : decode cX6_lying 5 = .ok (.aload_n 0, 1) := by decide +kernel
theorem dX6_lying_6 : decode cX6_lying 6 = .ok (.getfield 27, 3) := by decide +kernel
theorem dX6_lying_9 : decode cX6_lying 9 = .ok (.getfield 44, 3) := by decide +kernel
theorem dX6_nextFall_0 : decode cX6_nextFall 0 = .ok (.ldc 81, 2) := by decide +kernel
theorem dX6_nextFall_10 : decode cX6_nextFall 10 = .ok (.getfield 44, 3) := by decide +kernel
theorem dX6_nextFall_100 : decode cX6_nextFall 100 = .ok (.ireturn, 1) := by decide +kernel
theorem dX6_nextFall_13 : decode cX6_nextFall 13 = .ok (.if_icmp .ge 30, 3) := by decide +kernel
theorem dX6_nextFall_16 : decode cX6_nextFall 16 = .ok (.aload_n 0, 1) := by decide +kernel
theorem dX6_nextFall_17 : decode cX6_nextFall 17 = .ok (.getfield 9, 3) := by decide +kernel
theorem dX6_nextFall_2 : decode cX6_nextFall 2 = .ok (.istore_n 2, 1) := by decide +kernel
theorem dX6_nextFall_20 : decode cX6_nextFall 20 = .ok (.iload_n 3, 1) := by decide +kernel
theorem dX6_nextFall_21 : decode cX6_nextFall 21 = .ok (.iaload, 1) := by decide +kernel
theorem dX6_nextFall_22 : decode cX6_nextFall 22 = .ok (.iconst 1, 1) := by decide +kernel
theorem dX6_nextFall_23 : decode cX6_nextFall 23 = .ok (.if_icmp .ne 14, 3) := by decide +kernel
theorem dX6_nextFall_26 : decode cX6_nextFall 26 = .ok (.iload_n 2, 1) := by decide +kernel
theorem dX6_nextFall_27 : decode cX6_nextFall 27 = .ok (.aload_n 0, 1) := by decide +kernel
theorem dX6_nextFall_28 : decode cX6_nextFall 28 = .ok (.getfield 21, 3) := by decide +kernel
theorem dX6_nextFall_3 : decode cX6_nextFall 3 = .ok (.iconst 0, 1) := by decide +kernel
theorem dX6_nextFall_31 : decode cX6_nextFall 31 = .ok (.iload_n 3, 1) := by decide +kernel
theorem dX6_nextFall_32 : decode cX6_nextFall 32 = .ok (.iaload, 1) := by decide +kernel
theorem dX6_nextFall_33 : decode cX6_nextFall 33 = .ok (.invokestatic 94, 3) := by decide +kernel
theorem dX6_nextFall_36 : decode cX6_nextFall 36 = .ok (.istore_n 2, 1) := by decide +kernel
theorem dX6_nextFall_37 : decode cX6_nextFall 37 = .ok (.iinc 3 1, 3) := by decide +kernel
theorem dX6_nextFall_4 : decode cX6_nextFall 4 = .ok (.istore_n 3, 1) := by decide +kernel
theorem dX6_nextFall_40 : decode cX6_nextFall 40 = .ok (.goto (-35), 3) := by decide +kernel
theorem dX6_nextFall_43 : decode cX6_nextFall 43 = .ok (.iload_n 2, 1) := by decide +kernel
theorem dX6_nextFall_44 : decode cX6_nextFall 44 = .ok (.ldc 81, 2) := by decide +kernel
theorem dX6_nextFall_46 : decode cX6_nextFall 46 = .ok (.if_icmp .eq 8, 3) := by decide +kernel
theorem dX6_nextFall_49 : decode cX6_nextFall 49 = .ok (.iload_n 2, 1) := by decide +kernel
theorem dX6_nextFall_5 : decode cX6_nextFall 5 = .ok (.iload_n 3, 1) := by decide +kernel
theorem dX6_nextFall_50 : decode cX6_nextFall 50 = .ok (.iload_n 1, 1) := by decide +kernel
theorem dX6_nextFall_51 : decode cX6_nextFall 51 = .ok (.if_icmp .le 5, 3) := by decide +kernel
theorem dX6_nextFall_54 : decode cX6_nextFall 54 = .ok (.iconst 0, 1) := by decide +kernel
theorem dX6_nextFall_55 : decode cX6_nextFall 55 = .ok (.ireturn, 1) := by decide +kernel
theorem dX6_nextFall_56 : decode cX6_nextFall 56 = .ok (.aload_n 0, 1) := by decide +kernel
theorem dX6_nextFall_57 : decode cX6_nextFall 57 = .ok (.iload_n 2, 1) := by decide +kernel
theorem dX6_nextFall_58 : decode cX6_nextFall 58 = .ok (.putfield 31, 3) := by decide +kernel
theorem dX6_nextFall_6 : decode cX6_nextFall 6 = .ok (.aload_n 0, 1) := by decide +kernel
theorem dX6_nextFall_61 : decode cX6_nextFall 61 = .ok (.aload_n 0, 1) := by decide +kernel
theorem dX6_nextFall_62 : decode cX6_nextFall 62 = .ok (.iconst 0, 1) := by decide +kernel
theorem dX6_nextFall_63 : decode cX6_nextFall 63 = .ok (.putfield 35, 3) := by decide +kernel
theorem dX6_nextFall_66 : decode cX6_nextFall 66 = .ok (.iconst 0, 1) := by decide +kernel
theorem dX6_nextFall_67 : decode cX6_nextFall 67 = .ok (.istore_n 3, 1) := by decide +kernel
theorem dX6_nextFall_68 : decode cX6_nextFall 68 = .ok (.iload_n 3, 1) := by decide +kernel
theorem dX6_nextFall_69 : decode cX6_nextFall 69 = .ok (.aload_n 0, 1) := by decide +kernel
theorem dX6_nextFall_7 : decode cX6_nextFall 7 = .ok (.getfield 27, 3) := by decide +kernel
theorem dX6_nextFall_70 : decode cX6_nextFall 70 = .ok (.getfield 27, 3) := by decide +kernel
theorem dX6_nextFall_73 : decode cX6_nextFall 73 = .ok (.getfield 78, 3) := by decide +kernel
theorem dX6_nextFall_76 : decode cX6_nextFall 76 = .ok (.if_icmp .ge 23, 3) := by decide +kernel
theorem dX6_nextFall_79 : decode cX6_nextFall 79 = .ok (.aload_n 0, 1) := by decide +kernel
theorem dX6_nextFall_80 : decode cX6_nextFall 80 = .ok (.iload_n 3, 1) := by decide +kernel
theorem dX6_nextFall_81 : decode cX6_nextFall 81 = .ok (.aload_n 0, 1) := by decide +kernel
theorem dX6_nextFall_82 : decode cX6_nextFall 82 = .ok (.iload_n 3, 1) := by decide +kernel
theorem dX6_nextFall_83 : decode cX6_nextFall 83 = .ok (.aload_n 0, 1) := by decide +kernel
theorem dX6_nextFall_84 : decode cX6_nextFall 84 = .ok (.getfield 31, 3) := by decide +kernel
theorem dX6_nextFall_87 : decode cX6_nextFall 87 = .ok (.invokevirtual 82, 3) := by decide +kernel
theorem dX6_nextFall_90 : decode cX6_nextFall 90 = .ok (.invokevirtual 74, 3) := by decide +kernel
theorem dX6_nextFall_93 : decode cX6_nextFall 93 = .ok (.iinc 3 1, 3) := by decide +kernel
theorem dX6_nextFall_96 : decode cX6_nextFall 96 = .ok (.goto (-28), 3) := by decide +kernel
theorem dX6_nextFall_99 : decode cX6_nextFall 99 = .ok (.iconst 1, 1) := by decide +kernel
theorem dX6_passTo_0 : decode cX6_passTo 0 = .ok (.iconst 0, 1) := by decide +kernel
theorem dX6_passTo_1 : decode cX6_passTo 1 = .ok (.istore_n 2, 1) := by decide +kernel
theorem dX6_passTo_10 : decode cX6_passTo 10 = .ok (.aload_n 0, 1) := by decide +kernel
theorem dX6_passTo_11 : decode cX6_passTo 11 = .ok (.iload_n 1, 1) := by decide +kernel
theorem dX6_passTo_12 : decode cX6_passTo 12 = .ok (.invokevirtual 90, 3) := by decide +kernel
theorem dX6_passTo_15 : decode cX6_passTo 15 = .ok (.ifCond .ne 6, 3) := by decide +kernel
theorem dX6_passTo_18 : decode cX6_passTo 18 = .ok (.goto 19, 3) := by decide +kernel
theorem dX6_passTo_2 : decode cX6_passTo 2 = .ok (.iconst 0, 1) := by decide +kernel
theorem dX6_passTo_21 : decode cX6_passTo 21 = .ok (.iload_n 2, 1) := by decide +kernel
theorem dX6_passTo_22 : decode cX6_passTo 22 = .ok (.aload_n 0, 1) := by decide +kernel
theorem dX6_passTo_23 : decode cX6_passTo 23 = .ok (.getfield 35, 3) := by decide +kernel
theorem dX6_passTo_26 : decode cX6_passTo 26 = .ok (.invokestatic 85, 3) := by decide +kernel
theorem dX6_passTo_29 : decode cX6_passTo 29 = .ok (.iadd, 1) := by decide +kernel
theorem dX6_passTo_3 : decode cX6_passTo 3 = .ok (.istore_n 3, 1) := by decide +kernel
theorem dX6_passTo_30 : decode cX6_passTo 30 = .ok (.istore_n 2, 1) := by decide +kernel
theorem dX6_passTo_31 : decode cX6_passTo 31 = .ok (.iinc 3 1, 3) := by decide +kernel
theorem dX6_passTo_34 : decode cX6_passTo 34 = .ok (.goto (-30), 3) := by decide +kernel
theorem dX6_passTo_37 : decode cX6_passTo 37 = .ok (.aload_n 0, 1) := by decide +kernel
theorem dX6_passTo_38 : decode cX6_passTo 38 = .ok (.iload_n 1, 1) := by decide +kernel
theorem dX6_passTo_39 : decode cX6_passTo 39 = .ok (.putfield 31, 3) := by decide +kernel
theorem dX6_passTo_4 : decode cX6_passTo 4 = .ok (.iload_n 3, 1) := by decide +kernel
theorem dX6_passTo_42 : decode cX6_passTo 42 = .ok (.iload_n 2, 1) := by decide +kernel
theorem dX6_passTo_43 : decode cX6_passTo 43 = .ok (.ireturn, 1) := by decide +kernel
theorem dX6_passTo_5 : decode cX6_passTo 5 = .ok (.bipush 8, 2) := by decide +kernel
theorem dX6_passTo_7 : decode cX6_passTo 7 = .ok (.if_icmp .ge 30, 3) := by decide +kernel
theorem dX6_pickUp_0 : decode cX6_pickUp 0 = .ok (.aload_n 0, 1) := by decide +kernel
theorem dX6_pickUp_1 : decode cX6_pickUp 1 = .ok (.getfield 9, 3) := by decide +kernel
theorem dX6_pickUp_11 : decode cX6_pickUp 11 = .ok (.iload_n 1, 1) := by decide +kernel
theorem dX6_pickUp_12 : decode cX6_pickUp 12 = .ok (.aload_n 0, 1) := by decide +kernel
theorem dX6_pickUp_13 : decode cX6_pickUp 13 = .ok (.getfield 31, 3) := by decide +kernel
theorem dX6_pickUp_16 : decode cX6_pickUp 16 = .ok (.iastore, 1) := by decide +kernel
theorem dX6_pickUp_17 : decode cX6_pickUp 17 = .ok (.return_, 1) := by decide +kernel
theorem dX6_pickUp_4 : decode cX6_pickUp 4 = .ok (.iload_n 1, 1) := by decide +kernel
theorem dX6_pickUp_5 : decode cX6_pickUp 5 = .ok (.iconst 0, 1) := by decide +kernel
theorem dX6_pickUp_6 : decode cX6_pickUp 6 = .ok (.iastore, 1) := by decide +kernel
theorem dX6_pickUp_7 : decode cX6_pickUp 7 = .ok (.aload_n 0, 1) := by decide +kernel
theorem dX6_pickUp_8 : decode cX6_pickUp 8 = .ok (.getfield 21, 3) := by decide +kernel
theorem dX6_release_0 : decode cX6_release 0 = .ok (.aload_n 0, 1) := by decide +kernel
theorem dX6_release_1 : decode cX6_release 1 = .ok (.getfield 27, 3) := by decide +kernel
theorem dX6_release_12 : decode cX6_release 12 = .ok (.iload_n 1, 1) := by decide +kernel
theorem dX6_release_13 : decode cX6_release 13 = .ok (.iaload, 1) := by decide +kernel
theorem dX6_release_14 : decode cX6_release 14 = .ok (.isub, 1) := by decide +kernel
theorem dX6_release_15 : decode cX6_release 15 = .ok (.aload_n 0, 1) := by decide +kernel
theorem dX6_release_16 : decode cX6_release 16 = .ok (.getfield 27, 3) := by decide +kernel
theorem dX6_release_19 : decode cX6_release 19 = .ok (.getfield 52, 3) := by decide +kernel
theorem dX6_release_22 : decode cX6_release 22 = .ok (.iload_n 1, 1) := by decide +kernel
theorem dX6_release_23 : decode cX6_release 23 = .ok (.iaload, 1) := by decide +kernel
theorem dX6_release_24 : decode cX6_release 24 = .ok (.iload_n 2, 1) := by decide +kernel
theorem dX6_release_25 : decode cX6_release 25 = .ok (.iload_n 3, 1) := by decide +kernel
theorem dX6_release_26 : decode cX6_release 26 = .ok (.aload_n 0, 1) := by decide +kernel
theorem dX6_release_27 : decode cX6_release 27 = .ok (.getfield 31, 3) := by decide +kernel
theorem dX6_release_30 : decode cX6_release 30 = .ok (.aload_n 0, 1) := by decide +kernel
theorem dX6_release_31 : decode cX6_release 31 = .ok (.iload_n 2, 1) := by decide +kernel
theorem dX6_release_32 : decode cX6_release 32 = .ok (.invokevirtual 55, 3) := by decide +kernel
theorem dX6_release_35 : decode cX6_release 35 = .ok (.invokevirtual 70, 3) := by decide +kernel
theorem dX6_release_38 : decode cX6_release 38 = .ok (.istore 4, 2) := by decide +kernel
theorem dX6_release_4 : decode cX6_release 4 = .ok (.aload_n 0, 1) := by decide +kernel
theorem dX6_release_40 : decode cX6_release 40 = .ok (.aload_n 0, 1) := by decide +kernel
theorem dX6_release_41 : decode cX6_release 41 = .ok (.getfield 9, 3) := by decide +kernel
theorem dX6_release_44 : decode cX6_release 44 = .ok (.iload_n 1, 1) := by decide +kernel
theorem dX6_release_45 : decode cX6_release 45 = .ok (.iconst 1, 1) := by decide +kernel
theorem dX6_release_46 : decode cX6_release 46 = .ok (.iastore, 1) := by decide +kernel
theorem dX6_release_47 : decode cX6_release 47 = .ok (.aload_n 0, 1) := by decide +kernel
theorem dX6_release_48 : decode cX6_release 48 = .ok (.getfield 15, 3) := by decide +kernel
theorem dX6_release_5 : decode cX6_release 5 = .ok (.getfield 31, 3) := by decide +kernel
theorem dX6_release_51 : decode cX6_release 51 = .ok (.iload_n 1, 1) := by decide +kernel
theorem dX6_release_52 : decode cX6_release 52 = .ok (.iload_n 2, 1) := by decide +kernel
theorem dX6_release_53 : decode cX6_release 53 = .ok (.iastore, 1) := by decide +kernel
theorem dX6_release_54 : decode cX6_release 54 = .ok (.aload_n 0, 1) := by decide +kernel
theorem dX6_release_55 : decode cX6_release 55 = .ok (.getfield 18, 3) := by decide +kernel
theorem dX6_release_58 : decode cX6_release 58 = .ok (.iload_n 1, 1) := by decide +kernel
theorem dX6_release_59 : decode cX6_release 59 = .ok (.iload_n 3, 1) := by decide +kernel
theorem dX6_release_60 : decode cX6_release 60 = .ok (.iastore, 1) := by decide +kernel
theorem dX6_release_61 : decode cX6_release 61 = .ok (.aload_n 0, 1) := by decide +kernel
theorem dX6_release_62 : decode cX6_release 62 = .ok (.getfield 21, 3) := by decide +kernel
theorem dX6_release_65 : decode cX6_release 65 = .ok (.iload_n 1, 1) := by decide +kernel
theorem dX6_release_66 : decode cX6_release 66 = .ok (.aload_n 0, 1) := by decide +kernel
theorem dX6_release_67 : decode cX6_release 67 = .ok (.getfield 31, 3) := by decide +kernel
theorem dX6_release_70 : decode cX6_release 70 = .ok (.iload 4, 2) := by decide +kernel
theorem dX6_release_72 : decode cX6_release 72 = .ok (.iadd, 1) := by decide +kernel
theorem dX6_release_73 : decode cX6_release 73 = .ok (.iastore, 1) := by decide +kernel
theorem dX6_release_74 : decode cX6_release 74 = .ok (.aload_n 0, 1) := by decide +kernel
theorem dX6_release_75 : decode cX6_release 75 = .ok (.iconst 0, 1) := by decide +kernel
theorem dX6_release_76 : decode cX6_release 76 = .ok (.putfield 35, 3) := by decide +kernel
theorem dX6_release_79 : decode cX6_release 79 = .ok (.iload 4, 2) := by decide +kernel
theorem dX6_release_8 : decode cX6_release 8 = .ok (.aload_n 0, 1) := by decide +kernel
theorem dX6_release_81 : decode cX6_release 81 = .ok (.ifCond .ne 11, 3) := by decide +kernel
theorem dX6_release_84 : decode cX6_release 84 = .ok (.aload_n 0, 1) := by decide +kernel
theorem dX6_release_85 : decode cX6_release 85 = .ok (.iload_n 2, 1) := by decide +kernel
theorem dX6_release_86 : decode cX6_release 86 = .ok (.iconst 1, 1) := by decide +kernel
theorem dX6_release_87 : decode cX6_release 87 = .ok (.iload_n 1, 1) := by decide +kernel
theorem dX6_release_88 : decode cX6_release 88 = .ok (.ishl, 1) := by decide +kernel
theorem dX6_release_89 : decode cX6_release 89 = .ok (.invokevirtual 74, 3) := by decide +kernel
theorem dX6_release_9 : decode cX6_release 9 = .ok (.getfield 21, 3) := by decide +kernel
theorem dX6_release_92 : decode cX6_release 92 = .ok (.iload 4, 2) := by decide +kernel
theorem dX6_release_94 : decode cX6_release 94 = .ok (.ireturn, 1) := by decide +kernel
theorem dX6_shake_0 : decode cX6_shake 0 = .ok (.aload_n 0, 1) := by decide +kernel
theorem dX6_shake_1 : decode cX6_shake 1 = .ok (.iconst 0, 1) := by decide +kernel
theorem dX6_shake_12 : decode cX6_shake 12 = .ok (.getfield 78, 3) := by decide +kernel
theorem dX6_shake_15 : decode cX6_shake 15 = .ok (.if_icmp .ge 21, 3) := by decide +kernel
theorem dX6_shake_18 : decode cX6_shake 18 = .ok (.aload_n 0, 1) := by decide +kernel
theorem dX6_shake_19 : decode cX6_shake 19 = .ok (.iload_n 1, 1) := by decide +kernel
theorem dX6_shake_2 : decode cX6_shake 2 = .ok (.putfield 35, 3) := by decide +kernel
theorem dX6_shake_20 : decode cX6_shake 20 = .ok (.aload_n 0, 1) := by decide +kernel
theorem dX6_shake_21 : decode cX6_shake 21 = .ok (.iload_n 1, 1) := by decide +kernel
theorem dX6_shake_22 : decode cX6_shake 22 = .ok (.ldc 81, 2) := by decide +kernel
theorem dX6_shake_24 : decode cX6_shake 24 = .ok (.invokevirtual 82, 3) := by decide +kernel
theorem dX6_shake_27 : decode cX6_shake 27 = .ok (.invokevirtual 74, 3) := by decide +kernel
theorem dX6_shake_30 : decode cX6_shake 30 = .ok (.iinc 1 1, 3) := by decide +kernel
theorem dX6_shake_33 : decode cX6_shake 33 = .ok (.goto (-26), 3) := by decide +kernel
theorem dX6_shake_36 : decode cX6_shake 36 = .ok (.aload_n 0, 1) := by decide +kernel
theorem dX6_shake_37 : decode cX6_shake 37 = .ok (.getfield 35, 3) := by decide +kernel
theorem dX6_shake_40 : decode cX6_shake 40 = .ok (.invokestatic 85, 3) := by decide +kernel
theorem dX6_shake_43 : decode cX6_shake 43 = .ok (.ireturn, 1) := by decide +kernel
theorem dX6_shake_5 : decode cX6_shake 5 = .ok (.iconst 0, 1) := by decide +kernel
theorem dX6_shake_6 : decode cX6_shake 6 = .ok (.istore_n 1, 1) := by decide +kernel
theorem dX6_shake_7 : decode cX6_shake 7 = .ok (.iload_n 1, 1) := by decide +kernel
theorem dX6_shake_8 : decode cX6_shake 8 = .ok (.aload_n 0, 1) := by decide +kernel
theorem dX6_shake_9 : decode cX6_shake 9 = .ok (.getfield 27, 3) := by decide +kernel
theorem dX6_thingAt_0 : decode cX6_thingAt 0 = .ok (.iconst 0, 1) := by decide +kernel
theorem dX6_thingAt_1 : decode cX6_thingAt 1 = .ok (.istore_n 3, 1) := by decide +kernel
theorem dX6_thingAt_10 : decode cX6_thingAt 10 = .ok (.if_icmp .ge 40, 3) := by decide +kernel
theorem dX6_thingAt_13 : decode cX6_thingAt 13 = .ok (.aload_n 0, 1) := by decide +kernel
theorem dX6_thingAt_14 : decode cX6_thingAt 14 = .ok (.getfield 9, 3) := by decide +kernel
theorem dX6_thingAt_17 : decode cX6_thingAt 17 = .ok (.iload_n 3, 1) := by decide +kernel
theorem dX6_thingAt_18 : decode cX6_thingAt 18 = .ok (.iaload, 1) := by decide +kernel
theorem dX6_thingAt_19 : decode cX6_thingAt 19 = .ok (.ifCond .eq 25, 3) := by decide +kernel
theorem dX6_thingAt_2 : decode cX6_thingAt 2 = .ok (.iload_n 3, 1) := by decide +kernel
theorem dX6_thingAt_22 : decode cX6_thingAt 22 = .ok (.aload_n 0, 1) := by decide +kernel
theorem dX6_thingAt_23 : decode cX6_thingAt 23 = .ok (.getfield 15, 3) := by decide +kernel
theorem dX6_thingAt_26 : decode cX6_thingAt 26 = .ok (.iload_n 3, 1) := by decide +kernel
theorem dX6_thingAt_27 : decode cX6_thingAt 27 = .ok (.iaload, 1) := by decide +kernel
theorem dX6_thingAt_28 : decode cX6_thingAt 28 = .ok (.iload_n 1, 1) := by decide +kernel
theorem dX6_thingAt_29 : decode cX6_thingAt 29 = .ok (.if_icmp .ne 15, 3) := by decide +kernel
theorem dX6_thingAt_3 : decode cX6_thingAt 3 = .ok (.aload_n 0, 1) := by decide +kernel
theorem dX6_thingAt_32 : decode cX6_thingAt 32 = .ok (.aload_n 0, 1) := by decide +kernel
theorem dX6_thingAt_33 : decode cX6_thingAt 33 = .ok (.getfield 18, 3) := by decide +kernel
theorem dX6_thingAt_36 : decode cX6_thingAt 36 = .ok (.iload_n 3, 1) := by decide +kernel
theorem dX6_thingAt_37 : decode cX6_thingAt 37 = .ok (.iaload, 1) := by decide +kernel
theorem dX6_thingAt_38 : decode cX6_thingAt 38 = .ok (.iload_n 2, 1) := by decide +kernel
theorem dX6_thingAt_39 : decode cX6_thingAt 39 = .ok (.if_icmp .ne 5, 3) := by decide +kernel
theorem dX6_thingAt_4 : decode cX6_thingAt 4 = .ok (.getfield 27, 3) := by decide +kernel
theorem dX6_thingAt_42 : decode cX6_thingAt 42 = .ok (.iload_n 3, 1) := by decide +kernel
theorem dX6_thingAt_43 : decode cX6_thingAt 43 = .ok (.ireturn, 1) := by decide +kernel
theorem dX6_thingAt_44 : decode cX6_thingAt 44 = .ok (.iinc 3 1, 3) := by decide +kernel
theorem dX6_thingAt_47 : decode cX6_thingAt 47 = .ok (.goto (-45), 3) := by decide +kernel
theorem dX6_thingAt_50 : decode cX6_thingAt 50 = .ok (.iconst (-1), 1) := by decide +kernel
theorem dX6_thingAt_51 : decode cX6_thingAt 51 = .ok (.ireturn, 1) := by decide +kernel
theorem dX6_thingAt_7 : decode cX6_thingAt 7 = .ok (.getfield 44, 3) := by decide +kernel
theorem dX6_totalHurt_0 : decode cX6_totalHurt 0 = .ok (.iconst 0, 1) := by decide +kernel
theorem dX6_totalHurt_1 : decode cX6_totalHurt 1 = .ok (.istore_n 1, 1) := by decide +kernel
theorem dX6_totalHurt_12 : decode cX6_totalHurt 12 = .ok (.if_icmp .ge 18, 3) := by decide +kernel
theorem dX6_totalHurt_15 : decode cX6_totalHurt 15 = .ok (.iload_n 1, 1) := by decide +kernel
theorem dX6_totalHurt_16 : decode cX6_totalHurt 16 = .ok (.aload_n 0, 1) := by decide +kernel
theorem dX6_totalHurt_17 : decode cX6_totalHurt 17 = .ok (.getfield 24, 3) := by decide +kernel
theorem dX6_totalHurt_2 : decode cX6_totalHurt 2 = .ok (.iconst 0, 1) := by decide +kernel
theorem dX6_totalHurt_20 : decode cX6_totalHurt 20 = .ok (.iload_n 2, 1) := by decide +kernel
theorem dX6_totalHurt_21 : decode cX6_totalHurt 21 = .ok (.iaload, 1) := by decide +kernel
theorem dX6_totalHurt_22 : decode cX6_totalHurt 22 = .ok (.iadd, 1) := by decide +kernel
theorem dX6_totalHurt_23 : decode cX6_totalHurt 23 = .ok (.istore_n 1, 1) := by decide +kernel
theorem dX6_totalHurt_24 : decode cX6_totalHurt 24 = .ok (.iinc 2 1, 3) := by decide +kernel
theorem dX6_totalHurt_27 : decode cX6_totalHurt 27 = .ok (.goto (-23), 3) := by decide +kernel
theorem dX6_totalHurt_3 : decode cX6_totalHurt 3 = .ok (.istore_n 2, 1) := by decide +kernel
theorem dX6_totalHurt_30 : decode cX6_totalHurt 30 = .ok (.iload_n 1, 1) := by decide +kernel
theorem dX6_totalHurt_31 : decode cX6_totalHurt 31 = .ok (.ireturn, 1) := by decide +kernel
theorem dX6_totalHurt_4 : decode cX6_totalHurt 4 = .ok (.iload_n 2, 1) := by decide +kernel
theorem dX6_totalHurt_5 : decode cX6_totalHurt 5 = .ok (.aload_n 0, 1) := by decide +kernel
theorem dX6_totalHurt_6 : decode cX6_totalHurt 6 = .ok (.getfield 27, 3) := by decide +kernel
theorem dX6_totalHurt_9 : decode cX6_totalHurt 9 = .ok (.getfield 49, 3) := by decide +kernel
theorem dX6_weightOf_0 : decode cX6_weightOf 0 = .ok (.iconst 0, 1) := by decide +kernel
theorem dX6_weightOf_1 : decode cX6_weightOf 1 = .ok (.istore_n 3, 1) := by decide +kernel
theorem dX6_weightOf_11 : decode cX6_weightOf 11 = .ok (.getfield 44, 3) := by decide +kernel
theorem dX6_weightOf_14 : decode cX6_weightOf 14 = .ok (.if_icmp .ge 42, 3) := by decide +kernel
theorem dX6_weightOf_17 : decode cX6_weightOf 17 = .ok (.iload_n 1, 1) := by decide +kernel
theorem dX6_weightOf_18 : decode cX6_weightOf 18 = .ok (.iload 4, 2) := by decide +kernel
theorem dX6_weightOf_2 : decode cX6_weightOf 2 = .ok (.iconst 0, 1) := by decide +kernel
theorem dX6_weightOf_20 : decode cX6_weightOf 20 = .ok (.ishr, 1) := by decide +kernel
theorem dX6_weightOf_21 : decode cX6_weightOf 21 = .ok (.iconst 1, 1) := by decide +kernel
theorem dX6_weightOf_22 : decode cX6_weightOf 22 = .ok (.iand, 1) := by decide +kernel
theorem dX6_weightOf_23 : decode cX6_weightOf 23 = .ok (.ifCond .eq 27, 3) := by decide +kernel
theorem dX6_weightOf_26 : decode cX6_weightOf 26 = .ok (.aload_n 0, 1) := by decide +kernel
theorem dX6_weightOf_27 : decode cX6_weightOf 27 = .ok (.getfield 15, 3) := by decide +kernel
theorem dX6_weightOf_3 : decode cX6_weightOf 3 = .ok (.istore 4, 2) := by decide +kernel
theorem dX6_weightOf_30 : decode cX6_weightOf 30 = .ok (.iload 4, 2) := by decide +kernel
theorem dX6_weightOf_32 : decode cX6_weightOf 32 = .ok (.iaload, 1) := by decide +kernel
theorem dX6_weightOf_33 : decode cX6_weightOf 33 = .ok (.iload_n 2, 1) := by decide +kernel
theorem dX6_weightOf_34 : decode cX6_weightOf 34 = .ok (.if_icmp .ne 16, 3) := by decide +kernel
theorem dX6_weightOf_37 : decode cX6_weightOf 37 = .ok (.iload_n 3, 1) := by decide +kernel
theorem dX6_weightOf_38 : decode cX6_weightOf 38 = .ok (.aload_n 0, 1) := by decide +kernel
theorem dX6_weightOf_39 : decode cX6_weightOf 39 = .ok (.getfield 27, 3) := by decide +kernel
theorem dX6_weightOf_42 : decode cX6_weightOf 42 = .ok (.getfield 52, 3) := by decide +kernel
theorem dX6_weightOf_45 : decode cX6_weightOf 45 = .ok (.iload 4, 2) := by decide +kernel
theorem dX6_weightOf_47 : decode cX6_weightOf 47 = .ok (.iaload, 1) := by decide +kernel
theorem dX6_weightOf_48 : decode cX6_weightOf 48 = .ok (.iadd, 1) := by decide +kernel
theorem dX6_weightOf_49 : decode cX6_weightOf 49 = .ok (.istore_n 3, 1) := by decide +kernel
theorem dX6_weightOf_5 : decode cX6_weightOf 5 = .ok (.iload 4, 2) := by decide +kernel
theorem dX6_weightOf_50 : decode cX6_weightOf 50 = .ok (.iinc 4 1, 3) := by decide +kernel
theorem dX6_weightOf_53 : decode cX6_weightOf 53 = .ok (.goto (-48), 3) := by decide +kernel
theorem dX6_weightOf_56 : decode cX6_weightOf 56 = .ok (.iload_n 3, 1) := by decide +kernel
theorem dX6_weightOf_57 : decode cX6_weightOf 57 = .ok (.ireturn, 1) := by decide +kernel
theorem dX6_weightOf_7 : decode cX6_weightOf 7 = .ok (.aload_n 0, 1) := by decide +kernel
theorem dX6_weightOf_8 : decode cX6_weightOf 8 = .ok (.getfield 27, 3) := by decide +kernel
theorem dX6_whyNotLetGo_0 : decode cX6_whyNotLetGo 0 = .ok (.iload_n 1, 1) := by decide +kernel
theorem dX6_whyNotLetGo_1 : decode cX6_whyNotLetGo 1 = .ok (.ifCond .lt 26, 3) := by decide +kernel
theorem dX6_whyNotLetGo_12 : decode cX6_whyNotLetGo 12 = .ok (.if_icmp .ge 15, 3) := by decide +kernel
theorem dX6_whyNotLetGo_15 : decode cX6_whyNotLetGo 15 = .ok (.aload_n 0, 1) := by decide +kernel
theorem dX6_whyNotLetGo_16 : decode cX6_whyNotLetGo 16 = .ok (.getfield 27, 3) := by decide +kernel
theorem dX6_whyNotLetGo_19 : decode cX6_whyNotLetGo 19 = .ok (.iload_n 2, 1) := by decide +kernel
theorem dX6_whyNotLetGo_20 : decode cX6_whyNotLetGo 20 = .ok (.iload_n 3, 1) := by decide +kernel
theorem dX6_whyNotLetGo_21 : decode cX6_whyNotLetGo 21 = .ok (.invokevirtual 63, 3) := by decide +kernel
theorem dX6_whyNotLetGo_24 : decode cX6_whyNotLetGo 24 = .ok (.ifCond .ne 5, 3) := by decide +kernel
theorem dX6_whyNotLetGo_27 : decode cX6_whyNotLetGo 27 = .ok (.iconst 1, 1) := by decide +kernel
theorem dX6_whyNotLetGo_28 : decode cX6_whyNotLetGo 28 = .ok (.ireturn, 1) := by decide +kernel
theorem dX6_whyNotLetGo_29 : decode cX6_whyNotLetGo 29 = .ok (.aload_n 0, 1) := by decide +kernel
theorem dX6_whyNotLetGo_30 : decode cX6_whyNotLetGo 30 = .ok (.getfield 9, 3) := by decide +kernel
theorem dX6_whyNotLetGo_33 : decode cX6_whyNotLetGo 33 = .ok (.iload_n 1, 1) := by decide +kernel
theorem dX6_whyNotLetGo_34 : decode cX6_whyNotLetGo 34 = .ok (.iaload, 1) := by decide +kernel
theorem dX6_whyNotLetGo_35 : decode cX6_whyNotLetGo 35 = .ok (.ifCond .eq 5, 3) := by decide +kernel
theorem dX6_whyNotLetGo_38 : decode cX6_whyNotLetGo 38 = .ok (.iconst 2, 1) := by decide +kernel
theorem dX6_whyNotLetGo_39 : decode cX6_whyNotLetGo 39 = .ok (.ireturn, 1) := by decide +kernel
theorem dX6_whyNotLetGo_4 : decode cX6_whyNotLetGo 4 = .ok (.iload_n 1, 1) := by decide +kernel
theorem dX6_whyNotLetGo_40 : decode cX6_whyNotLetGo 40 = .ok (.aload_n 0, 1) := by decide +kernel
theorem dX6_whyNotLetGo_41 : decode cX6_whyNotLetGo 41 = .ok (.iload_n 2, 1) := by decide +kernel
theorem dX6_whyNotLetGo_42 : decode cX6_whyNotLetGo 42 = .ok (.iload_n 3, 1) := by decide +kernel
theorem dX6_whyNotLetGo_43 : decode cX6_whyNotLetGo 43 = .ok (.invokevirtual 67, 3) := by decide +kernel
theorem dX6_whyNotLetGo_46 : decode cX6_whyNotLetGo 46 = .ok (.ifCond .eq 7, 3) := by decide +kernel
theorem dX6_whyNotLetGo_49 : decode cX6_whyNotLetGo 49 = .ok (.iconst 0, 1) := by decide +kernel
theorem dX6_whyNotLetGo_5 : decode cX6_whyNotLetGo 5 = .ok (.aload_n 0, 1) := by decide +kernel
theorem dX6_whyNotLetGo_50 : decode cX6_whyNotLetGo 50 = .ok (.goto 4, 3) := by decide +kernel
theorem dX6_whyNotLetGo_53 : decode cX6_whyNotLetGo 53 = .ok (.iconst 3, 1) := by decide +kernel
theorem dX6_whyNotLetGo_54 : decode cX6_whyNotLetGo 54 = .ok (.ireturn, 1) := by decide +kernel
theorem dX6_whyNotLetGo_6 : decode cX6_whyNotLetGo 6 = .ok (.getfield 27, 3) := by decide +kernel
theorem dX6_whyNotLetGo_9 : decode cX6_whyNotLetGo 9 = .ok (.getfield 44, 3) := by decide +kernel
theorem dX6_whyNotTake_0 : decode cX6_whyNotTake 0 = .ok (.iload_n 1, 1) := by decide +kernel
theorem dX6_whyNotTake_1 : decode cX6_whyNotTake 1 = .ok (.ifCond .lt 14, 3) := by decide +kernel
theorem dX6_whyNotTake_12 : decode cX6_whyNotTake 12 = .ok (.if_icmp .lt 5, 3) := by decide +kernel
theorem dX6_whyNotTake_15 : decode cX6_whyNotTake 15 = .ok (.iconst 1, 1) := by decide +kernel
theorem dX6_whyNotTake_16 : decode cX6_whyNotTake 16 = .ok (.ireturn, 1) := by decide +kernel
theorem dX6_whyNotTake_17 : decode cX6_whyNotTake 17 = .ok (.aload_n 0, 1) := by decide +kernel
theorem dX6_whyNotTake_18 : decode cX6_whyNotTake 18 = .ok (.getfield 9, 3) := by decide +kernel
theorem dX6_whyNotTake_21 : decode cX6_whyNotTake 21 = .ok (.iload_n 1, 1) := by decide +kernel
theorem dX6_whyNotTake_22 : decode cX6_whyNotTake 22 = .ok (.iaload, 1) := by decide +kernel
theorem dX6_whyNotTake_23 : decode cX6_whyNotTake 23 = .ok (.ifCond .ne 5, 3) := by decide +kernel
theorem dX6_whyNotTake_26 : decode cX6_whyNotTake 26 = .ok (.iconst 2, 1) := by decide +kernel
theorem dX6_whyNotTake_27 : decode cX6_whyNotTake 27 = .ok (.ireturn, 1) := by decide +kernel
theorem dX6_whyNotTake_28 : decode cX6_whyNotTake 28 = .ok (.aload_n 0, 1) := by decide +kernel
theorem dX6_whyNotTake_29 : decode cX6_whyNotTake 29 = .ok (.getfield 9, 3) := by decide +kernel
theorem dX6_whyNotTake_32 : decode cX6_whyNotTake 32 = .ok (.iload_n 1, 1) := by decide +kernel
theorem dX6_whyNotTake_33 : decode cX6_whyNotTake 33 = .ok (.iaload, 1) := by decide +kernel
theorem dX6_whyNotTake_34 : decode cX6_whyNotTake 34 = .ok (.iconst 2, 1) := by decide +kernel
theorem dX6_whyNotTake_35 : decode cX6_whyNotTake 35 = .ok (.if_icmp .ne 28, 3) := by decide +kernel
theorem dX6_whyNotTake_38 : decode cX6_whyNotTake 38 = .ok (.aload_n 0, 1) := by decide +kernel
theorem dX6_whyNotTake_39 : decode cX6_whyNotTake 39 = .ok (.getfield 18, 3) := by decide +kernel
theorem dX6_whyNotTake_4 : decode cX6_whyNotTake 4 = .ok (.iload_n 1, 1) := by decide +kernel
theorem dX6_whyNotTake_42 : decode cX6_whyNotTake 42 = .ok (.iload_n 1, 1) := by decide +kernel
theorem dX6_whyNotTake_43 : decode cX6_whyNotTake 43 = .ok (.iaload, 1) := by decide +kernel
theorem dX6_whyNotTake_44 : decode cX6_whyNotTake 44 = .ok (.iconst 1, 1) := by decide +kernel
theorem dX6_whyNotTake_45 : decode cX6_whyNotTake 45 = .ok (.iadd, 1) := by decide +kernel
theorem dX6_whyNotTake_46 : decode cX6_whyNotTake 46 = .ok (.aload_n 0, 1) := by decide +kernel
theorem dX6_whyNotTake_47 : decode cX6_whyNotTake 47 = .ok (.aload_n 0, 1) := by decide +kernel
theorem dX6_whyNotTake_48 : decode cX6_whyNotTake 48 = .ok (.getfield 15, 3) := by decide +kernel
theorem dX6_whyNotTake_5 : decode cX6_whyNotTake 5 = .ok (.aload_n 0, 1) := by decide +kernel
theorem dX6_whyNotTake_51 : decode cX6_whyNotTake 51 = .ok (.iload_n 1, 1) := by decide +kernel
theorem dX6_whyNotTake_52 : decode cX6_whyNotTake 52 = .ok (.iaload, 1) := by decide +kernel
theorem dX6_whyNotTake_53 : decode cX6_whyNotTake 53 = .ok (.invokevirtual 55, 3) := by decide +kernel
theorem dX6_whyNotTake_56 : decode cX6_whyNotTake 56 = .ok (.if_icmp .ge 7, 3) := by decide +kernel
theorem dX6_whyNotTake_59 : decode cX6_whyNotTake 59 = .ok (.iconst 1, 1) := by decide +kernel
theorem dX6_whyNotTake_6 : decode cX6_whyNotTake 6 = .ok (.getfield 27, 3) := by decide +kernel
theorem dX6_whyNotTake_60 : decode cX6_whyNotTake 60 = .ok (.goto 4, 3) := by decide +kernel
theorem dX6_whyNotTake_63 : decode cX6_whyNotTake 63 = .ok (.iconst 0, 1) := by decide +kernel
theorem dX6_whyNotTake_64 : decode cX6_whyNotTake 64 = .ok (.istore_n 2, 1) := by decide +kernel
theorem dX6_whyNotTake_65 : decode cX6_whyNotTake 65 = .ok (.iload_n 2, 1) := by decide +kernel
theorem dX6_whyNotTake_66 : decode cX6_whyNotTake 66 = .ok (.ifCond .eq 7, 3) := by decide +kernel
theorem dX6_whyNotTake_69 : decode cX6_whyNotTake 69 = .ok (.iconst 3, 1) := by decide +kernel
theorem dX6_whyNotTake_70 : decode cX6_whyNotTake 70 = .ok (.goto 4, 3) := by decide +kernel
theorem dX6_whyNotTake_73 : decode cX6_whyNotTake 73 = .ok (.iconst 0, 1) := by decide +kernel
theorem dX6_whyNotTake_74 : decode cX6_whyNotTake 74 = .ok (.ireturn, 1) := by decide +kernel
theorem dX6_whyNotTake_9 : decode cX6_whyNotTake 9 = .ok (.getfield 44, 3) := by decide +kernel
theorem dX8_cut_0 : decode cX8_cut 0 = .ok (.aload_n 0, 1) := by decide +kernel
theorem dX8_cut_1 : decode cX8_cut 1 = .ok (.getfield 9, 3) := by decide +kernel
theorem dX8_cut_32 : decode cX8_cut 32 = .ok (.lload_n 1, 1) := by decide +kernel
theorem dX8_cut_33 : decode cX8_cut 33 = .ok (.l2i, 1) := by decide +kernel
theorem dX8_cut_34 : decode cX8_cut 34 = .ok (.i2b, 1) := by decide +kernel
theorem dX8_cut_35 : decode cX8_cut 35 = .ok (.i2l, 1) := by decide +kernel
theorem dX8_cut_36 : decode cX8_cut 36 = .ok (.lreturn, 1) := by decide +kernel
theorem dX8_cut_37 : decode cX8_cut 37 = .ok (.lload_n 1, 1) := by decide +kernel
theorem dX8_cut_38 : decode cX8_cut 38 = .ok (.l2i, 1) := by decide +kernel
theorem dX8_cut_39 : decode cX8_cut 39 = .ok (.i2s, 1) := by decide +kernel
theorem dX8_cut_4 : decode cX8_cut 4 = .ok (.tableswitch 42 0 2 #[28, 33, 38], 28) := by decide +kernel
theorem dX8_cut_40 : decode cX8_cut 40 = .ok (.i2l, 1) := by decide +kernel
theorem dX8_cut_41 : decode cX8_cut 41 = .ok (.lreturn, 1) := by decide +kernel
theorem dX8_cut_42 : decode cX8_cut 42 = .ok (.lload_n 1, 1) := by decide +kernel
theorem dX8_cut_43 : decode cX8_cut 43 = .ok (.l2i, 1) := by decide +kernel
theorem dX8_cut_44 : decode cX8_cut 44 = .ok (.i2l, 1) := by decide +kernel
theorem dX8_cut_45 : decode cX8_cut 45 = .ok (.lreturn, 1) := by decide +kernel
theorem dX8_cut_46 : decode cX8_cut 46 = .ok (.lload_n 1, 1) := by decide +kernel
theorem dX8_cut_47 : decode cX8_cut 47 = .ok (.lreturn, 1) := by decide +kernel
theorem dX8_lay_0 : decode cX8_lay 0 = .ok (.aload_n 0, 1) := by decide +kernel
theorem dX8_lay_1 : decode cX8_lay 1 = .ok (.iload_n 1, 1) := by decide +kernel
theorem dX8_lay_10 : decode cX8_lay 10 = .ok (.iconst 0, 1) := by decide +kernel
theorem dX8_lay_11 : decode cX8_lay 11 = .ok (.istore_n 3, 1) := by decide +kernel
theorem dX8_lay_12 : decode cX8_lay 12 = .ok (.iload_n 3, 1) := by decide +kernel
theorem dX8_lay_13 : decode cX8_lay 13 = .ok (.bipush 30, 2) := by decide +kernel
theorem dX8_lay_15 : decode cX8_lay 15 = .ok (.if_icmp .ge 16, 3) := by decide +kernel
theorem dX8_lay_18 : decode cX8_lay 18 = .ok (.aload_n 0, 1) := by decide +kernel
theorem dX8_lay_19 : decode cX8_lay 19 = .ok (.getfield 15, 3) := by decide +kernel
theorem dX8_lay_2 : decode cX8_lay 2 = .ok (.putfield 9, 3) := by decide +kernel
theorem dX8_lay_22 : decode cX8_lay 22 = .ok (.iload_n 3, 1) := by decide +kernel
theorem dX8_lay_23 : decode cX8_lay 23 = .ok (.lconst 0, 1) := by decide +kernel
theorem dX8_lay_24 : decode cX8_lay 24 = .ok (.lastore, 1) := by decide +kernel
theorem dX8_lay_25 : decode cX8_lay 25 = .ok (.iinc 3 1, 3) := by decide +kernel
theorem dX8_lay_28 : decode cX8_lay 28 = .ok (.goto (-16), 3) := by decide +kernel
theorem dX8_lay_31 : decode cX8_lay 31 = .ok (.return_, 1) := by decide +kernel
theorem dX8_lay_5 : decode cX8_lay 5 = .ok (.aload_n 0, 1) := by decide +kernel
theorem dX8_lay_6 : decode cX8_lay 6 = .ok (.iload_n 2, 1) := by decide +kernel
theorem dX8_lay_7 : decode cX8_lay 7 = .ok (.putfield 19, 3) := by decide +kernel
theorem dX8_put_0 : decode cX8_put 0 = .ok (.iload_n 1, 1) := by decide +kernel
theorem dX8_put_1 : decode cX8_put 1 = .ok (.ifCond .lt 17, 3) := by decide +kernel
theorem dX8_put_12 : decode cX8_put 12 = .ok (.iload_n 1, 1) := by decide +kernel
theorem dX8_put_13 : decode cX8_put 13 = .ok (.bipush 30, 2) := by decide +kernel
theorem dX8_put_15 : decode cX8_put 15 = .ok (.if_icmp .lt 5, 3) := by decide +kernel
theorem dX8_put_18 : decode cX8_put 18 = .ok (.lconst 0, 1) := by decide +kernel
theorem dX8_put_19 : decode cX8_put 19 = .ok (.lreturn, 1) := by decide +kernel
theorem dX8_put_20 : decode cX8_put 20 = .ok (.aload_n 0, 1) := by decide +kernel
theorem dX8_put_21 : decode cX8_put 21 = .ok (.getfield 15, 3) := by decide +kernel
theorem dX8_put_24 : decode cX8_put 24 = .ok (.iload_n 1, 1) := by decide +kernel
theorem dX8_put_25 : decode cX8_put 25 = .ok (.aload_n 0, 1) := by decide +kernel
theorem dX8_put_26 : decode cX8_put 26 = .ok (.lload_n 2, 1) := by decide +kernel
theorem dX8_put_27 : decode cX8_put 27 = .ok (.invokevirtual 22, 3) := by decide +kernel
theorem dX8_put_30 : decode cX8_put 30 = .ok (.lastore, 1) := by decide +kernel
theorem dX8_put_31 : decode cX8_put 31 = .ok (.aload_n 0, 1) := by decide +kernel
theorem dX8_put_32 : decode cX8_put 32 = .ok (.getfield 15, 3) := by decide +kernel
theorem dX8_put_35 : decode cX8_put 35 = .ok (.iload_n 1, 1) := by decide +kernel
theorem dX8_put_36 : decode cX8_put 36 = .ok (.laload, 1) := by decide +kernel
theorem dX8_put_37 : decode cX8_put 37 = .ok (.lreturn, 1) := by decide +kernel
theorem dX8_put_4 : decode cX8_put 4 = .ok (.iload_n 1, 1) := by decide +kernel
theorem dX8_put_5 : decode cX8_put 5 = .ok (.aload_n 0, 1) := by decide +kernel
theorem dX8_put_6 : decode cX8_put 6 = .ok (.getfield 19, 3) := by decide +kernel
theorem dX8_put_9 : decode cX8_put 9 = .ok (.if_icmp .ge 9, 3) := by decide +kernel
theorem dX9_beside_0 : decode cX9_beside 0 = .ok (.iload_n 1, 1) := by decide +kernel
theorem dX9_beside_1 : decode cX9_beside 1 = .ok (.ifCond .lt 18, 3) := by decide +kernel
theorem dX9_beside_10 : decode cX9_beside 10 = .ok (.aload_n 0, 1) := by decide +kernel
theorem dX9_beside_11 : decode cX9_beside 11 = .ok (.getfield 25, 3) := by decide +kernel
theorem dX9_beside_14 : decode cX9_beside 14 = .ok (.iload_n 1, 1) := by decide +kernel
theorem dX9_beside_15 : decode cX9_beside 15 = .ok (.laload, 1) := by decide +kernel
theorem dX9_beside_16 : decode cX9_beside 16 = .ok (.goto 4, 3) := by decide +kernel
theorem dX9_beside_19 : decode cX9_beside 19 = .ok (.lconst 0, 1) := by decide +kernel
theorem dX9_beside_20 : decode cX9_beside 20 = .ok (.lreturn, 1) := by decide +kernel
theorem dX9_beside_4 : decode cX9_beside 4 = .ok (.iload_n 1, 1) := by decide +kernel
theorem dX9_beside_5 : decode cX9_beside 5 = .ok (.bipush 6, 2) := by decide +kernel
theorem dX9_beside_7 : decode cX9_beside 7 = .ok (.if_icmp .ge 12, 3) := by decide +kernel
theorem dX9_columnOnWay_0 : decode cX9_columnOnWay 0 = .ok (.iload 4, 2) := by decide +kernel
theorem dX9_columnOnWay_101 : decode cX9_columnOnWay 101 = .ok (.iaload, 1) := by decide +kernel
theorem dX9_columnOnWay_102 : decode cX9_columnOnWay 102 = .ok (.iand, 1) := by decide +kernel
theorem dX9_columnOnWay_103 : decode cX9_columnOnWay 103 = .ok (.invokestatic 63, 3) := by decide +kernel
theorem dX9_columnOnWay_106 : decode cX9_columnOnWay 106 = .ok (.istore 5, 2) := by decide +kernel
theorem dX9_columnOnWay_108 : decode cX9_columnOnWay 108 = .ok (.iinc 6 1, 3) := by decide +kernel
theorem dX9_columnOnWay_11 : decode cX9_columnOnWay 11 = .ok (.iload_n 3, 1) := by decide +kernel
theorem dX9_columnOnWay_111 : decode cX9_columnOnWay 111 = .ok (.goto (-31), 3) := by decide +kernel
theorem dX9_columnOnWay_114 : decode cX9_columnOnWay 114 = .ok (.iload 5, 2) := by decide +kernel
theorem dX9_columnOnWay_116 : decode cX9_columnOnWay 116 = .ok (.ireturn, 1) := by decide +kernel
theorem dX9_columnOnWay_12 : decode cX9_columnOnWay 12 = .ok (.bipush 60, 2) := by decide +kernel
theorem dX9_columnOnWay_14 : decode cX9_columnOnWay 14 = .ok (.if_icmp .le 5, 3) := by decide +kernel
theorem dX9_columnOnWay_17 : decode cX9_columnOnWay 17 = .ok (.iconst (-1), 1) := by decide +kernel
theorem dX9_columnOnWay_18 : decode cX9_columnOnWay 18 = .ok (.ireturn, 1) := by decide +kernel
theorem dX9_columnOnWay_19 : decode cX9_columnOnWay 19 = .ok (.aload_n 0, 1) := by decide +kernel
theorem dX9_columnOnWay_2 : decode cX9_columnOnWay 2 = .ok (.ifCond .lt 15, 3) := by decide +kernel
theorem dX9_columnOnWay_20 : decode cX9_columnOnWay 20 = .ok (.getfield 18, 3) := by decide +kernel
theorem dX9_columnOnWay_23 : decode cX9_columnOnWay 23 = .ok (.iload_n 3, 1) := by decide +kernel
theorem dX9_columnOnWay_24 : decode cX9_columnOnWay 24 = .ok (.iconst 1, 1) := by decide +kernel
theorem dX9_columnOnWay_25 : decode cX9_columnOnWay 25 = .ok (.iload_n 2, 1) := by decide +kernel
theorem dX9_columnOnWay_26 : decode cX9_columnOnWay 26 = .ok (.ishl, 1) := by decide +kernel
theorem dX9_columnOnWay_27 : decode cX9_columnOnWay 27 = .ok (.iastore, 1) := by decide +kernel
theorem dX9_columnOnWay_28 : decode cX9_columnOnWay 28 = .ok (.iload_n 3, 1) := by decide +kernel
theorem dX9_columnOnWay_29 : decode cX9_columnOnWay 29 = .ok (.iconst 1, 1) := by decide +kernel
theorem dX9_columnOnWay_30 : decode cX9_columnOnWay 30 = .ok (.isub, 1) := by decide +kernel
theorem dX9_columnOnWay_31 : decode cX9_columnOnWay 31 = .ok (.istore 5, 2) := by decide +kernel
theorem dX9_columnOnWay_33 : decode cX9_columnOnWay 33 = .ok (.iload 5, 2) := by decide +kernel
theorem dX9_columnOnWay_35 : decode cX9_columnOnWay 35 = .ok (.ifCond .lt 39, 3) := by decide +kernel
theorem dX9_columnOnWay_38 : decode cX9_columnOnWay 38 = .ok (.aload_n 0, 1) := by decide +kernel
theorem dX9_columnOnWay_39 : decode cX9_columnOnWay 39 = .ok (.getfield 18, 3) := by decide +kernel
theorem dX9_columnOnWay_42 : decode cX9_columnOnWay 42 = .ok (.iload 5, 2) := by decide +kernel
theorem dX9_columnOnWay_44 : decode cX9_columnOnWay 44 = .ok (.aload_n 0, 1) := by decide +kernel
theorem dX9_columnOnWay_45 : decode cX9_columnOnWay 45 = .ok (.aload_n 0, 1) := by decide +kernel
theorem dX9_columnOnWay_46 : decode cX9_columnOnWay 46 = .ok (.getfield 18, 3) := by decide +kernel
theorem dX9_columnOnWay_49 : decode cX9_columnOnWay 49 = .ok (.iload 5, 2) := by decide +kernel
theorem dX9_columnOnWay_5 : decode cX9_columnOnWay 5 = .ok (.iload 4, 2) := by decide +kernel
theorem dX9_columnOnWay_51 : decode cX9_columnOnWay 51 = .ok (.iconst 1, 1) := by decide +kernel
theorem dX9_columnOnWay_52 : decode cX9_columnOnWay 52 = .ok (.iadd, 1) := by decide +kernel
theorem dX9_columnOnWay_53 : decode cX9_columnOnWay 53 = .ok (.iaload, 1) := by decide +kernel
theorem dX9_columnOnWay_54 : decode cX9_columnOnWay 54 = .ok (.invokevirtual 59, 3) := by decide +kernel
theorem dX9_columnOnWay_57 : decode cX9_columnOnWay 57 = .ok (.aload_n 0, 1) := by decide +kernel
theorem dX9_columnOnWay_58 : decode cX9_columnOnWay 58 = .ok (.getfield 9, 3) := by decide +kernel
theorem dX9_columnOnWay_61 : decode cX9_columnOnWay 61 = .ok (.iload 5, 2) := by decide +kernel
theorem dX9_columnOnWay_63 : decode cX9_columnOnWay 63 = .ok (.iaload, 1) := by decide +kernel
theorem dX9_columnOnWay_64 : decode cX9_columnOnWay 64 = .ok (.iconst (-1), 1) := by decide +kernel
theorem dX9_columnOnWay_65 : decode cX9_columnOnWay 65 = .ok (.ixor, 1) := by decide +kernel
theorem dX9_columnOnWay_66 : decode cX9_columnOnWay 66 = .ok (.iand, 1) := by decide +kernel
theorem dX9_columnOnWay_67 : decode cX9_columnOnWay 67 = .ok (.iastore, 1) := by decide +kernel
theorem dX9_columnOnWay_68 : decode cX9_columnOnWay 68 = .ok (.iinc 5 (-1), 3) := by decide +kernel
theorem dX9_columnOnWay_7 : decode cX9_columnOnWay 7 = .ok (.iload_n 3, 1) := by decide +kernel
theorem dX9_columnOnWay_71 : decode cX9_columnOnWay 71 = .ok (.goto (-38), 3) := by decide +kernel
theorem dX9_columnOnWay_74 : decode cX9_columnOnWay 74 = .ok (.iload_n 1, 1) := by decide +kernel
theorem dX9_columnOnWay_75 : decode cX9_columnOnWay 75 = .ok (.istore 5, 2) := by decide +kernel
theorem dX9_columnOnWay_77 : decode cX9_columnOnWay 77 = .ok (.iconst 1, 1) := by decide +kernel
theorem dX9_columnOnWay_78 : decode cX9_columnOnWay 78 = .ok (.istore 6, 2) := by decide +kernel
theorem dX9_columnOnWay_8 : decode cX9_columnOnWay 8 = .ok (.if_icmp .gt 9, 3) := by decide +kernel
theorem dX9_columnOnWay_80 : decode cX9_columnOnWay 80 = .ok (.iload 6, 2) := by decide +kernel
theorem dX9_columnOnWay_82 : decode cX9_columnOnWay 82 = .ok (.iload 4, 2) := by decide +kernel
theorem dX9_columnOnWay_84 : decode cX9_columnOnWay 84 = .ok (.if_icmp .gt 30, 3) := by decide +kernel
theorem dX9_columnOnWay_87 : decode cX9_columnOnWay 87 = .ok (.aload_n 0, 1) := by decide +kernel
theorem dX9_columnOnWay_88 : decode cX9_columnOnWay 88 = .ok (.iconst 1, 1) := by decide +kernel
theorem dX9_columnOnWay_89 : decode cX9_columnOnWay 89 = .ok (.iload 5, 2) := by decide +kernel
theorem dX9_columnOnWay_91 : decode cX9_columnOnWay 91 = .ok (.ishl, 1) := by decide +kernel
theorem dX9_columnOnWay_92 : decode cX9_columnOnWay 92 = .ok (.invokevirtual 59, 3) := by decide +kernel
theorem dX9_columnOnWay_95 : decode cX9_columnOnWay 95 = .ok (.aload_n 0, 1) := by decide +kernel
theorem dX9_columnOnWay_96 : decode cX9_columnOnWay 96 = .ok (.getfield 18, 3) := by decide +kernel
theorem dX9_columnOnWay_99 : decode cX9_columnOnWay 99 = .ok (.iload 6, 2) := by decide +kernel
theorem dX9_howMany_0 : decode cX9_howMany 0 = .ok (.iconst 0, 1) := by decide +kernel
theorem dX9_howMany_1 : decode cX9_howMany 1 = .ok (.istore 4, 2) := by decide +kernel
theorem dX9_howMany_10 : decode cX9_howMany 10 = .ok (.aload_n 0, 1) := by decide +kernel
theorem dX9_howMany_102 : decode cX9_howMany 102 = .ok (.iconst 1, 1) := by decide +kernel
theorem dX9_howMany_103 : decode cX9_howMany 103 = .ok (.goto 4, 3) := by decide +kernel
theorem dX9_howMany_106 : decode cX9_howMany 106 = .ok (.iconst 0, 1) := by decide +kernel
theorem dX9_howMany_107 : decode cX9_howMany 107 = .ok (.istore 6, 2) := by decide +kernel
theorem dX9_howMany_109 : decode cX9_howMany 109 = .ok (.aload_n 0, 1) := by decide +kernel
theorem dX9_howMany_11 : decode cX9_howMany 11 = .ok (.getfield 21, 3) := by decide +kernel
theorem dX9_howMany_110 : decode cX9_howMany 110 = .ok (.getfield 21, 3) := by decide +kernel
theorem dX9_howMany_113 : decode cX9_howMany 113 = .ok (.iload 5, 2) := by decide +kernel
theorem dX9_howMany_115 : decode cX9_howMany 115 = .ok (.iload 6, 2) := by decide +kernel
theorem dX9_howMany_117 : decode cX9_howMany 117 = .ok (.ifCond .eq 31, 3) := by decide +kernel
theorem dX9_howMany_120 : decode cX9_howMany 120 = .ok (.aload_n 0, 1) := by decide +kernel
theorem dX9_howMany_121 : decode cX9_howMany 121 = .ok (.getfield 25, 3) := by decide +kernel
theorem dX9_howMany_124 : decode cX9_howMany 124 = .ok (.iload 5, 2) := by decide +kernel
theorem dX9_howMany_126 : decode cX9_howMany 126 = .ok (.laload, 1) := by decide +kernel
theorem dX9_howMany_127 : decode cX9_howMany 127 = .ok (.aload_n 0, 1) := by decide +kernel
theorem dX9_howMany_128 : decode cX9_howMany 128 = .ok (.iload 5, 2) := by decide +kernel
theorem dX9_howMany_130 : decode cX9_howMany 130 = .ok (.iconst 1, 1) := by decide +kernel
theorem dX9_howMany_131 : decode cX9_howMany 131 = .ok (.isub, 1) := by decide +kernel
theorem dX9_howMany_132 : decode cX9_howMany 132 = .ok (.invokevirtual 74, 3) := by decide +kernel
theorem dX9_howMany_135 : decode cX9_howMany 135 = .ok (.ladd, 1) := by decide +kernel
theorem dX9_howMany_136 : decode cX9_howMany 136 = .ok (.aload_n 0, 1) := by decide +kernel
theorem dX9_howMany_137 : decode cX9_howMany 137 = .ok (.iload 5, 2) := by decide +kernel
theorem dX9_howMany_139 : decode cX9_howMany 139 = .ok (.iconst 1, 1) := by decide +kernel
theorem dX9_howMany_14 : decode cX9_howMany 14 = .ok (.iload 4, 2) := by decide +kernel
theorem dX9_howMany_140 : decode cX9_howMany 140 = .ok (.iadd, 1) := by decide +kernel
theorem dX9_howMany_141 : decode cX9_howMany 141 = .ok (.invokevirtual 74, 3) := by decide +kernel
theorem dX9_howMany_144 : decode cX9_howMany 144 = .ok (.ladd, 1) := by decide +kernel
theorem dX9_howMany_145 : decode cX9_howMany 145 = .ok (.goto 4, 3) := by decide +kernel
theorem dX9_howMany_148 : decode cX9_howMany 148 = .ok (.lconst 0, 1) := by decide +kernel
theorem dX9_howMany_149 : decode cX9_howMany 149 = .ok (.lastore, 1) := by decide +kernel
theorem dX9_howMany_150 : decode cX9_howMany 150 = .ok (.iinc 5 1, 3) := by decide +kernel
theorem dX9_howMany_153 : decode cX9_howMany 153 = .ok (.goto (-85), 3) := by decide +kernel
theorem dX9_howMany_156 : decode cX9_howMany 156 = .ok (.iinc 4 1, 3) := by decide +kernel
theorem dX9_howMany_159 : decode cX9_howMany 159 = .ok (.goto (-122), 3) := by decide +kernel
theorem dX9_howMany_16 : decode cX9_howMany 16 = .ok (.iload 4, 2) := by decide +kernel
theorem dX9_howMany_162 : decode cX9_howMany 162 = .ok (.iload_n 2, 1) := by decide +kernel
theorem dX9_howMany_163 : decode cX9_howMany 163 = .ok (.ifCond .lt 18, 3) := by decide +kernel
theorem dX9_howMany_166 : decode cX9_howMany 166 = .ok (.iload_n 2, 1) := by decide +kernel
theorem dX9_howMany_167 : decode cX9_howMany 167 = .ok (.bipush 6, 2) := by decide +kernel
theorem dX9_howMany_169 : decode cX9_howMany 169 = .ok (.if_icmp .ge 12, 3) := by decide +kernel
theorem dX9_howMany_172 : decode cX9_howMany 172 = .ok (.aload_n 0, 1) := by decide +kernel
theorem dX9_howMany_173 : decode cX9_howMany 173 = .ok (.getfield 21, 3) := by decide +kernel
theorem dX9_howMany_176 : decode cX9_howMany 176 = .ok (.iload_n 2, 1) := by decide +kernel
theorem dX9_howMany_177 : decode cX9_howMany 177 = .ok (.laload, 1) := by decide +kernel
theorem dX9_howMany_178 : decode cX9_howMany 178 = .ok (.goto 4, 3) := by decide +kernel
theorem dX9_howMany_18 : decode cX9_howMany 18 = .ok (.iload_n 1, 1) := by decide +kernel
theorem dX9_howMany_181 : decode cX9_howMany 181 = .ok (.lconst 0, 1) := by decide +kernel
theorem dX9_howMany_182 : decode cX9_howMany 182 = .ok (.lreturn, 1) := by decide +kernel
theorem dX9_howMany_19 : decode cX9_howMany 19 = .ok (.if_icmp .ne 7, 3) := by decide +kernel
theorem dX9_howMany_22 : decode cX9_howMany 22 = .ok (.lconst 1, 1) := by decide +kernel
theorem dX9_howMany_23 : decode cX9_howMany 23 = .ok (.goto 4, 3) := by decide +kernel
theorem dX9_howMany_26 : decode cX9_howMany 26 = .ok (.lconst 0, 1) := by decide +kernel
theorem dX9_howMany_27 : decode cX9_howMany 27 = .ok (.lastore, 1) := by decide +kernel
theorem dX9_howMany_28 : decode cX9_howMany 28 = .ok (.iinc 4 1, 3) := by decide +kernel
theorem dX9_howMany_3 : decode cX9_howMany 3 = .ok (.iload 4, 2) := by decide +kernel
theorem dX9_howMany_31 : decode cX9_howMany 31 = .ok (.goto (-28), 3) := by decide +kernel
theorem dX9_howMany_34 : decode cX9_howMany 34 = .ok (.iconst 1, 1) := by decide +kernel
theorem dX9_howMany_35 : decode cX9_howMany 35 = .ok (.istore 4, 2) := by decide +kernel
theorem dX9_howMany_37 : decode cX9_howMany 37 = .ok (.iload 4, 2) := by decide +kernel
theorem dX9_howMany_39 : decode cX9_howMany 39 = .ok (.iload_n 3, 1) := by decide +kernel
theorem dX9_howMany_40 : decode cX9_howMany 40 = .ok (.if_icmp .gt 122, 3) := by decide +kernel
theorem dX9_howMany_43 : decode cX9_howMany 43 = .ok (.iload 4, 2) := by decide +kernel
theorem dX9_howMany_45 : decode cX9_howMany 45 = .ok (.bipush 60, 2) := by decide +kernel
theorem dX9_howMany_47 : decode cX9_howMany 47 = .ok (.if_icmp .gt 115, 3) := by decide +kernel
theorem dX9_howMany_5 : decode cX9_howMany 5 = .ok (.bipush 6, 2) := by decide +kernel
theorem dX9_howMany_50 : decode cX9_howMany 50 = .ok (.aload_n 0, 1) := by decide +kernel
theorem dX9_howMany_51 : decode cX9_howMany 51 = .ok (.getfield 21, 3) := by decide +kernel
theorem dX9_howMany_54 : decode cX9_howMany 54 = .ok (.iconst 0, 1) := by decide +kernel
theorem dX9_howMany_55 : decode cX9_howMany 55 = .ok (.aload_n 0, 1) := by decide +kernel
theorem dX9_howMany_56 : decode cX9_howMany 56 = .ok (.getfield 25, 3) := by decide +kernel
theorem dX9_howMany_59 : decode cX9_howMany 59 = .ok (.iconst 0, 1) := by decide +kernel
theorem dX9_howMany_60 : decode cX9_howMany 60 = .ok (.bipush 6, 2) := by decide +kernel
theorem dX9_howMany_62 : decode cX9_howMany 62 = .ok (.invokestatic 68, 3) := by decide +kernel
theorem dX9_howMany_65 : decode cX9_howMany 65 = .ok (.iconst 0, 1) := by decide +kernel
theorem dX9_howMany_66 : decode cX9_howMany 66 = .ok (.istore 5, 2) := by decide +kernel
theorem dX9_howMany_68 : decode cX9_howMany 68 = .ok (.iload 5, 2) := by decide +kernel
theorem dX9_howMany_7 : decode cX9_howMany 7 = .ok (.if_icmp .ge 27, 3) := by decide +kernel
theorem dX9_howMany_70 : decode cX9_howMany 70 = .ok (.bipush 6, 2) := by decide +kernel
theorem dX9_howMany_72 : decode cX9_howMany 72 = .ok (.if_icmp .ge 84, 3) := by decide +kernel
theorem dX9_howMany_75 : decode cX9_howMany 75 = .ok (.aload_n 0, 1) := by decide +kernel
theorem dX9_howMany_76 : decode cX9_howMany 76 = .ok (.getfield 46, 3) := by decide +kernel
theorem dX9_howMany_79 : decode cX9_howMany 79 = .ok (.iload 5, 2) := by decide +kernel
theorem dX9_howMany_81 : decode cX9_howMany 81 = .ok (.ishr, 1) := by decide +kernel
theorem dX9_howMany_82 : decode cX9_howMany 82 = .ok (.iconst 1, 1) := by decide +kernel
theorem dX9_howMany_83 : decode cX9_howMany 83 = .ok (.iand, 1) := by decide +kernel
theorem dX9_howMany_84 : decode cX9_howMany 84 = .ok (.ifCond .eq 22, 3) := by decide +kernel
theorem dX9_howMany_87 : decode cX9_howMany 87 = .ok (.aload_n 0, 1) := by decide +kernel
theorem dX9_howMany_88 : decode cX9_howMany 88 = .ok (.getfield 9, 3) := by decide +kernel
theorem dX9_howMany_91 : decode cX9_howMany 91 = .ok (.iload 4, 2) := by decide +kernel
theorem dX9_howMany_93 : decode cX9_howMany 93 = .ok (.iaload, 1) := by decide +kernel
theorem dX9_howMany_94 : decode cX9_howMany 94 = .ok (.iload 5, 2) := by decide +kernel
theorem dX9_howMany_96 : decode cX9_howMany 96 = .ok (.ishr, 1) := by decide +kernel
theorem dX9_howMany_97 : decode cX9_howMany 97 = .ok (.iconst 1, 1) := by decide +kernel
theorem dX9_howMany_98 : decode cX9_howMany 98 = .ok (.iand, 1) := by decide +kernel
theorem dX9_howMany_99 : decode cX9_howMany 99 = .ok (.ifCond .ne 7, 3) := by decide +kernel
theorem dX9_look_0 : decode cX9_look 0 = .ok (.aload_n 1, 1) := by decide +kernel
theorem dX9_look_1 : decode cX9_look 1 = .ok (.getfield 28, 3) := by decide +kernel
theorem dX9_look_10 : decode cX9_look 10 = .ok (.istore_n 3, 1) := by decide +kernel
theorem dX9_look_101 : decode cX9_look 101 = .ok (.iload 5, 2) := by decide +kernel
theorem dX9_look_103 : decode cX9_look 103 = .ok (.dup2, 1) := by decide +kernel
theorem dX9_look_104 : decode cX9_look 104 = .ok (.iaload, 1) := by decide +kernel
theorem dX9_look_105 : decode cX9_look 105 = .ok (.iconst 1, 1) := by decide +kernel
theorem dX9_look_106 : decode cX9_look 106 = .ok (.iload 6, 2) := by decide +kernel
theorem dX9_look_108 : decode cX9_look 108 = .ok (.ishl, 1) := by decide +kernel
theorem dX9_look_109 : decode cX9_look 109 = .ok (.ior, 1) := by decide +kernel
theorem dX9_look_11 : decode cX9_look 11 = .ok (.aload_n 0, 1) := by decide +kernel
theorem dX9_look_110 : decode cX9_look 110 = .ok (.iastore, 1) := by decide +kernel
theorem dX9_look_111 : decode cX9_look 111 = .ok (.iinc 6 1, 3) := by decide +kernel
theorem dX9_look_114 : decode cX9_look 114 = .ok (.goto (-46), 3) := by decide +kernel
theorem dX9_look_117 : decode cX9_look 117 = .ok (.iinc 4 1, 3) := by decide +kernel
theorem dX9_look_12 : decode cX9_look 12 = .ok (.iconst 1, 1) := by decide +kernel
theorem dX9_look_120 : decode cX9_look 120 = .ok (.goto (-73), 3) := by decide +kernel
theorem dX9_look_123 : decode cX9_look 123 = .ok (.aload_n 0, 1) := by decide +kernel
theorem dX9_look_124 : decode cX9_look 124 = .ok (.getfield 15, 3) := by decide +kernel
theorem dX9_look_127 : decode cX9_look 127 = .ok (.iconst 0, 1) := by decide +kernel
theorem dX9_look_128 : decode cX9_look 128 = .ok (.iconst 1, 1) := by decide +kernel
theorem dX9_look_129 : decode cX9_look 129 = .ok (.iload_n 2, 1) := by decide +kernel
theorem dX9_look_13 : decode cX9_look 13 = .ok (.iload_n 3, 1) := by decide +kernel
theorem dX9_look_130 : decode cX9_look 130 = .ok (.ishl, 1) := by decide +kernel
theorem dX9_look_131 : decode cX9_look 131 = .ok (.iastore, 1) := by decide +kernel
theorem dX9_look_132 : decode cX9_look 132 = .ok (.iconst 1, 1) := by decide +kernel
theorem dX9_look_133 : decode cX9_look 133 = .ok (.istore 4, 2) := by decide +kernel
theorem dX9_look_135 : decode cX9_look 135 = .ok (.iload 4, 2) := by decide +kernel
theorem dX9_look_137 : decode cX9_look 137 = .ok (.bipush 60, 2) := by decide +kernel
theorem dX9_look_139 : decode cX9_look 139 = .ok (.if_icmp .gt 39, 3) := by decide +kernel
theorem dX9_look_14 : decode cX9_look 14 = .ok (.ishl, 1) := by decide +kernel
theorem dX9_look_142 : decode cX9_look 142 = .ok (.aload_n 0, 1) := by decide +kernel
theorem dX9_look_143 : decode cX9_look 143 = .ok (.getfield 15, 3) := by decide +kernel
theorem dX9_look_146 : decode cX9_look 146 = .ok (.iload 4, 2) := by decide +kernel
theorem dX9_look_148 : decode cX9_look 148 = .ok (.aload_n 0, 1) := by decide +kernel
theorem dX9_look_149 : decode cX9_look 149 = .ok (.aload_n 0, 1) := by decide +kernel
theorem dX9_look_15 : decode cX9_look 15 = .ok (.iconst 1, 1) := by decide +kernel
theorem dX9_look_150 : decode cX9_look 150 = .ok (.getfield 15, 3) := by decide +kernel
theorem dX9_look_153 : decode cX9_look 153 = .ok (.iload 4, 2) := by decide +kernel
theorem dX9_look_155 : decode cX9_look 155 = .ok (.iconst 1, 1) := by decide +kernel
theorem dX9_look_156 : decode cX9_look 156 = .ok (.isub, 1) := by decide +kernel
theorem dX9_look_157 : decode cX9_look 157 = .ok (.iaload, 1) := by decide +kernel
theorem dX9_look_158 : decode cX9_look 158 = .ok (.invokevirtual 59, 3) := by decide +kernel
theorem dX9_look_16 : decode cX9_look 16 = .ok (.isub, 1) := by decide +kernel
theorem dX9_look_161 : decode cX9_look 161 = .ok (.aload_n 0, 1) := by decide +kernel
theorem dX9_look_162 : decode cX9_look 162 = .ok (.getfield 9, 3) := by decide +kernel
theorem dX9_look_165 : decode cX9_look 165 = .ok (.iload 4, 2) := by decide +kernel
theorem dX9_look_167 : decode cX9_look 167 = .ok (.iaload, 1) := by decide +kernel
theorem dX9_look_168 : decode cX9_look 168 = .ok (.iconst (-1), 1) := by decide +kernel
theorem dX9_look_169 : decode cX9_look 169 = .ok (.ixor, 1) := by decide +kernel
theorem dX9_look_17 : decode cX9_look 17 = .ok (.putfield 46, 3) := by decide +kernel
theorem dX9_look_170 : decode cX9_look 170 = .ok (.iand, 1) := by decide +kernel
theorem dX9_look_171 : decode cX9_look 171 = .ok (.iastore, 1) := by decide +kernel
theorem dX9_look_172 : decode cX9_look 172 = .ok (.iinc 4 1, 3) := by decide +kernel
theorem dX9_look_175 : decode cX9_look 175 = .ok (.goto (-40), 3) := by decide +kernel
theorem dX9_look_178 : decode cX9_look 178 = .ok (.return_, 1) := by decide +kernel
theorem dX9_look_20 : decode cX9_look 20 = .ok (.iconst 0, 1) := by decide +kernel
theorem dX9_look_21 : decode cX9_look 21 = .ok (.istore 4, 2) := by decide +kernel
theorem dX9_look_23 : decode cX9_look 23 = .ok (.iload 4, 2) := by decide +kernel
theorem dX9_look_25 : decode cX9_look 25 = .ok (.bipush 60, 2) := by decide +kernel
theorem dX9_look_27 : decode cX9_look 27 = .ok (.if_icmp .gt 17, 3) := by decide +kernel
theorem dX9_look_30 : decode cX9_look 30 = .ok (.aload_n 0, 1) := by decide +kernel
theorem dX9_look_31 : decode cX9_look 31 = .ok (.getfield 9, 3) := by decide +kernel
theorem dX9_look_34 : decode cX9_look 34 = .ok (.iload 4, 2) := by decide +kernel
theorem dX9_look_36 : decode cX9_look 36 = .ok (.iconst 0, 1) := by decide +kernel
theorem dX9_look_37 : decode cX9_look 37 = .ok (.iastore, 1) := by decide +kernel
theorem dX9_look_38 : decode cX9_look 38 = .ok (.iinc 4 1, 3) := by decide +kernel
theorem dX9_look_4 : decode cX9_look 4 = .ok (.getfield 34, 3) := by decide +kernel
theorem dX9_look_41 : decode cX9_look 41 = .ok (.goto (-18), 3) := by decide +kernel
theorem dX9_look_44 : decode cX9_look 44 = .ok (.iconst 0, 1) := by decide +kernel
theorem dX9_look_45 : decode cX9_look 45 = .ok (.istore 4, 2) := by decide +kernel
theorem dX9_look_47 : decode cX9_look 47 = .ok (.iload 4, 2) := by decide +kernel
theorem dX9_look_49 : decode cX9_look 49 = .ok (.aload_n 1, 1) := by decide +kernel
theorem dX9_look_50 : decode cX9_look 50 = .ok (.getfield 49, 3) := by decide +kernel
theorem dX9_look_53 : decode cX9_look 53 = .ok (.if_icmp .ge 70, 3) := by decide +kernel
theorem dX9_look_56 : decode cX9_look 56 = .ok (.aload_n 1, 1) := by decide +kernel
theorem dX9_look_57 : decode cX9_look 57 = .ok (.getfield 52, 3) := by decide +kernel
theorem dX9_look_60 : decode cX9_look 60 = .ok (.iload 4, 2) := by decide +kernel
theorem dX9_look_62 : decode cX9_look 62 = .ok (.iaload, 1) := by decide +kernel
theorem dX9_look_63 : decode cX9_look 63 = .ok (.istore 5, 2) := by decide +kernel
theorem dX9_look_65 : decode cX9_look 65 = .ok (.iconst 0, 1) := by decide +kernel
theorem dX9_look_66 : decode cX9_look 66 = .ok (.istore 6, 2) := by decide +kernel
theorem dX9_look_68 : decode cX9_look 68 = .ok (.iload 6, 2) := by decide +kernel
theorem dX9_look_7 : decode cX9_look 7 = .ok (.getfield 40, 3) := by decide +kernel
theorem dX9_look_70 : decode cX9_look 70 = .ok (.iload_n 3, 1) := by decide +kernel
theorem dX9_look_71 : decode cX9_look 71 = .ok (.if_icmp .ge 46, 3) := by decide +kernel
theorem dX9_look_74 : decode cX9_look 74 = .ok (.iload 5, 2) := by decide +kernel
theorem dX9_look_76 : decode cX9_look 76 = .ok (.ifCond .le 41, 3) := by decide +kernel
theorem dX9_look_79 : decode cX9_look 79 = .ok (.iload 5, 2) := by decide +kernel
theorem dX9_look_81 : decode cX9_look 81 = .ok (.bipush 60, 2) := by decide +kernel
theorem dX9_look_83 : decode cX9_look 83 = .ok (.if_icmp .gt 34, 3) := by decide +kernel
theorem dX9_look_86 : decode cX9_look 86 = .ok (.aload_n 1, 1) := by decide +kernel
theorem dX9_look_87 : decode cX9_look 87 = .ok (.iload 4, 2) := by decide +kernel
theorem dX9_look_89 : decode cX9_look 89 = .ok (.iload 6, 2) := by decide +kernel
theorem dX9_look_91 : decode cX9_look 91 = .ok (.invokevirtual 55, 3) := by decide +kernel
theorem dX9_look_94 : decode cX9_look 94 = .ok (.ifCond .le 17, 3) := by decide +kernel
theorem dX9_look_97 : decode cX9_look 97 = .ok (.aload_n 0, 1) := by decide +kernel
theorem dX9_look_98 : decode cX9_look 98 = .ok (.getfield 9, 3) := by decide +kernel
theorem dX9_near_0 : decode cX9_near 0 = .ok (.iload_n 1, 1) := by decide +kernel
theorem dX9_near_1 : decode cX9_near 1 = .ok (.iload_n 1, 1) := by decide +kernel
theorem dX9_near_10 : decode cX9_near 10 = .ok (.getfield 46, 3) := by decide +kernel
theorem dX9_near_13 : decode cX9_near 13 = .ok (.iand, 1) := by decide +kernel
theorem dX9_near_14 : decode cX9_near 14 = .ok (.ireturn, 1) := by decide +kernel
theorem dX9_near_2 : decode cX9_near 2 = .ok (.iconst 1, 1) := by decide +kernel
theorem dX9_near_3 : decode cX9_near 3 = .ok (.ishl, 1) := by decide +kernel
theorem dX9_near_4 : decode cX9_near 4 = .ok (.ior, 1) := by decide +kernel
theorem dX9_near_5 : decode cX9_near 5 = .ok (.iload_n 1, 1) := by decide +kernel
theorem dX9_near_6 : decode cX9_near 6 = .ok (.iconst 1, 1) := by decide +kernel
theorem dX9_near_7 : decode cX9_near 7 = .ok (.ishr, 1) := by decide +kernel
theorem dX9_near_8 : decode cX9_near 8 = .ok (.ior, 1) := by decide +kernel
theorem dX9_near_9 : decode cX9_near 9 = .ok (.aload_n 0, 1) := by decide +kernel
theorem dX9_soonest_0 : decode cX9_soonest 0 = .ok (.iconst 0, 1) := by decide +kernel
theorem dX9_soonest_1 : decode cX9_soonest 1 = .ok (.istore_n 2, 1) := by decide +kernel
theorem dX9_soonest_12 : decode cX9_soonest 12 = .ok (.iload_n 2, 1) := by decide +kernel
theorem dX9_soonest_13 : decode cX9_soonest 13 = .ok (.iaload, 1) := by decide +kernel
theorem dX9_soonest_14 : decode cX9_soonest 14 = .ok (.iload_n 1, 1) := by decide +kernel
theorem dX9_soonest_15 : decode cX9_soonest 15 = .ok (.ishr, 1) := by decide +kernel
theorem dX9_soonest_16 : decode cX9_soonest 16 = .ok (.iconst 1, 1) := by decide +kernel
theorem dX9_soonest_17 : decode cX9_soonest 17 = .ok (.iand, 1) := by decide +kernel
theorem dX9_soonest_18 : decode cX9_soonest 18 = .ok (.ifCond .eq 5, 3) := by decide +kernel
theorem dX9_soonest_2 : decode cX9_soonest 2 = .ok (.iload_n 2, 1) := by decide +kernel
theorem dX9_soonest_21 : decode cX9_soonest 21 = .ok (.iload_n 2, 1) := by decide +kernel
theorem dX9_soonest_22 : decode cX9_soonest 22 = .ok (.ireturn, 1) := by decide +kernel
theorem dX9_soonest_23 : decode cX9_soonest 23 = .ok (.iinc 2 1, 3) := by decide +kernel
theorem dX9_soonest_26 : decode cX9_soonest 26 = .ok (.goto (-24), 3) := by decide +kernel
theorem dX9_soonest_29 : decode cX9_soonest 29 = .ok (.iconst (-1), 1) := by decide +kernel
theorem dX9_soonest_3 : decode cX9_soonest 3 = .ok (.bipush 60, 2) := by decide +kernel
theorem dX9_soonest_30 : decode cX9_soonest 30 = .ok (.ireturn, 1) := by decide +kernel
theorem dX9_soonest_5 : decode cX9_soonest 5 = .ok (.if_icmp .gt 24, 3) := by decide +kernel
theorem dX9_soonest_8 : decode cX9_soonest 8 = .ok (.aload_n 0, 1) := by decide +kernel
theorem dX9_soonest_9 : decode cX9_soonest 9 = .ok (.getfield 15, 3) := by decide +kernel
