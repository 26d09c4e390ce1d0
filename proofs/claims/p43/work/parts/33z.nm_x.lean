theorem dX10_busiest_0 : decode cX10_busiest 0 = .ok (.aload_n 0, 1) := by decide +kernel
theorem dX10_busiest_1 : decode cX10_busiest 1 = .ok (.getfield 71, 3) := by decide +kernel
theorem dX10_busiest_11 : decode cX10_busiest 11 = .ok (.iconst 0, 1) := by decide +kernel
theorem dX10_busiest_12 : decode cX10_busiest 12 = .ok (.istore_n 1, 1) := by decide +kernel
theorem dX10_busiest_13 : decode cX10_busiest 13 = .ok (.iconst (-1), 1) := by decide +kernel
theorem dX10_busiest_14 : decode cX10_busiest 14 = .ok (.istore_n 2, 1) := by decide +kernel
theorem dX10_busiest_15 : decode cX10_busiest 15 = .ok (.iconst 0, 1) := by decide +kernel
theorem dX10_busiest_16 : decode cX10_busiest 16 = .ok (.istore_n 3, 1) := by decide +kernel
theorem dX10_busiest_17 : decode cX10_busiest 17 = .ok (.iload_n 3, 1) := by decide +kernel
theorem dX10_busiest_18 : decode cX10_busiest 18 = .ok (.aload_n 0, 1) := by decide +kernel
theorem dX10_busiest_19 : decode cX10_busiest 19 = .ok (.getfield 71, 3) := by decide +kernel
theorem dX10_busiest_22 : decode cX10_busiest 22 = .ok (.getfield 295, 3) := by decide +kernel
theorem dX10_busiest_25 : decode cX10_busiest 25 = .ok (.if_icmp .ge 42, 3) := by decide +kernel
theorem dX10_busiest_28 : decode cX10_busiest 28 = .ok (.aload_n 0, 1) := by decide +kernel
theorem dX10_busiest_29 : decode cX10_busiest 29 = .ok (.getfield 71, 3) := by decide +kernel
theorem dX10_busiest_32 : decode cX10_busiest 32 = .ok (.getfield 301, 3) := by decide +kernel
theorem dX10_busiest_35 : decode cX10_busiest 35 = .ok (.iload_n 3, 1) := by decide +kernel
theorem dX10_busiest_36 : decode cX10_busiest 36 = .ok (.iaload, 1) := by decide +kernel
theorem dX10_busiest_37 : decode cX10_busiest 37 = .ok (.invokestatic 304, 3) := by decide +kernel
theorem dX10_busiest_4 : decode cX10_busiest 4 = .ok (.aload_n 0, 1) := by decide +kernel
theorem dX10_busiest_40 : decode cX10_busiest 40 = .ok (.istore 4, 2) := by decide +kernel
theorem dX10_busiest_42 : decode cX10_busiest 42 = .ok (.iload 4, 2) := by decide +kernel
theorem dX10_busiest_44 : decode cX10_busiest 44 = .ok (.iload_n 1, 1) := by decide +kernel
theorem dX10_busiest_45 : decode cX10_busiest 45 = .ok (.if_icmp .le 16, 3) := by decide +kernel
theorem dX10_busiest_48 : decode cX10_busiest 48 = .ok (.iload 4, 2) := by decide +kernel
theorem dX10_busiest_5 : decode cX10_busiest 5 = .ok (.getfield 57, 3) := by decide +kernel
theorem dX10_busiest_50 : decode cX10_busiest 50 = .ok (.istore_n 1, 1) := by decide +kernel
theorem dX10_busiest_51 : decode cX10_busiest 51 = .ok (.aload_n 0, 1) := by decide +kernel
theorem dX10_busiest_52 : decode cX10_busiest 52 = .ok (.getfield 71, 3) := by decide +kernel
theorem dX10_busiest_55 : decode cX10_busiest 55 = .ok (.getfield 298, 3) := by decide +kernel
theorem dX10_busiest_58 : decode cX10_busiest 58 = .ok (.iload_n 3, 1) := by decide +kernel
theorem dX10_busiest_59 : decode cX10_busiest 59 = .ok (.iaload, 1) := by decide +kernel
theorem dX10_busiest_60 : decode cX10_busiest 60 = .ok (.istore_n 2, 1) := by decide +kernel
theorem dX10_busiest_61 : decode cX10_busiest 61 = .ok (.iinc 3 1, 3) := by decide +kernel
theorem dX10_busiest_64 : decode cX10_busiest 64 = .ok (.goto (-47), 3) := by decide +kernel
theorem dX10_busiest_67 : decode cX10_busiest 67 = .ok (.iload_n 2, 1) := by decide +kernel
theorem dX10_busiest_68 : decode cX10_busiest 68 = .ok (.ireturn, 1) := by decide +kernel
theorem dX10_busiest_8 : decode cX10_busiest 8 = .ok (.invokevirtual 289, 3) := by decide +kernel
theorem dX10_fallIn_0 : decode cX10_fallIn 0 = .ok (.iload_n 1, 1) := by decide +kernel
theorem dX10_fallIn_1 : decode cX10_fallIn 1 = .ok (.iconst 1, 1) := by decide +kernel
theorem dX10_fallIn_12 : decode cX10_fallIn 12 = .ok (.aload_n 0, 1) := by decide +kernel
theorem dX10_fallIn_13 : decode cX10_fallIn 13 = .ok (.getfield 57, 3) := by decide +kernel
theorem dX10_fallIn_16 : decode cX10_fallIn 16 = .ok (.invokevirtual 289, 3) := by decide +kernel
theorem dX10_fallIn_19 : decode cX10_fallIn 19 = .ok (.iconst 0, 1) := by decide +kernel
theorem dX10_fallIn_2 : decode cX10_fallIn 2 = .ok (.sipush 999, 3) := by decide +kernel
theorem dX10_fallIn_20 : decode cX10_fallIn 20 = .ok (.istore_n 2, 1) := by decide +kernel
theorem dX10_fallIn_21 : decode cX10_fallIn 21 = .ok (.iconst 0, 1) := by decide +kernel
theorem dX10_fallIn_22 : decode cX10_fallIn 22 = .ok (.istore_n 3, 1) := by decide +kernel
theorem dX10_fallIn_23 : decode cX10_fallIn 23 = .ok (.iload_n 3, 1) := by decide +kernel
theorem dX10_fallIn_24 : decode cX10_fallIn 24 = .ok (.aload_n 0, 1) := by decide +kernel
theorem dX10_fallIn_25 : decode cX10_fallIn 25 = .ok (.getfield 71, 3) := by decide +kernel
theorem dX10_fallIn_28 : decode cX10_fallIn 28 = .ok (.getfield 295, 3) := by decide +kernel
theorem dX10_fallIn_31 : decode cX10_fallIn 31 = .ok (.if_icmp .ge 34, 3) := by decide +kernel
theorem dX10_fallIn_34 : decode cX10_fallIn 34 = .ok (.aload_n 0, 1) := by decide +kernel
theorem dX10_fallIn_35 : decode cX10_fallIn 35 = .ok (.getfield 71, 3) := by decide +kernel
theorem dX10_fallIn_38 : decode cX10_fallIn 38 = .ok (.getfield 298, 3) := by decide +kernel
theorem dX10_fallIn_41 : decode cX10_fallIn 41 = .ok (.iload_n 3, 1) := by decide +kernel
theorem dX10_fallIn_42 : decode cX10_fallIn 42 = .ok (.iaload, 1) := by decide +kernel
theorem dX10_fallIn_43 : decode cX10_fallIn 43 = .ok (.iload_n 1, 1) := by decide +kernel
theorem dX10_fallIn_44 : decode cX10_fallIn 44 = .ok (.if_icmp .ne 15, 3) := by decide +kernel
theorem dX10_fallIn_47 : decode cX10_fallIn 47 = .ok (.iload_n 2, 1) := by decide +kernel
theorem dX10_fallIn_48 : decode cX10_fallIn 48 = .ok (.aload_n 0, 1) := by decide +kernel
theorem dX10_fallIn_49 : decode cX10_fallIn 49 = .ok (.getfield 71, 3) := by decide +kernel
theorem dX10_fallIn_5 : decode cX10_fallIn 5 = .ok (.invokestatic 170, 3) := by decide +kernel
theorem dX10_fallIn_52 : decode cX10_fallIn 52 = .ok (.getfield 301, 3) := by decide +kernel
theorem dX10_fallIn_55 : decode cX10_fallIn 55 = .ok (.iload_n 3, 1) := by decide +kernel
theorem dX10_fallIn_56 : decode cX10_fallIn 56 = .ok (.iaload, 1) := by decide +kernel
theorem dX10_fallIn_57 : decode cX10_fallIn 57 = .ok (.ior, 1) := by decide +kernel
theorem dX10_fallIn_58 : decode cX10_fallIn 58 = .ok (.istore_n 2, 1) := by decide +kernel
theorem dX10_fallIn_59 : decode cX10_fallIn 59 = .ok (.iinc 3 1, 3) := by decide +kernel
theorem dX10_fallIn_62 : decode cX10_fallIn 62 = .ok (.goto (-39), 3) := by decide +kernel
theorem dX10_fallIn_65 : decode cX10_fallIn 65 = .ok (.iload_n 2, 1) := by decide +kernel
theorem dX10_fallIn_66 : decode cX10_fallIn 66 = .ok (.ireturn, 1) := by decide +kernel
theorem dX10_fallIn_8 : decode cX10_fallIn 8 = .ok (.aload_n 0, 1) := by decide +kernel
theorem dX10_fallIn_9 : decode cX10_fallIn 9 = .ok (.getfield 71, 3) := by decide +kernel
theorem dX10_fallsBy_0 : decode cX10_fallsBy 0 = .ok (.aload_n 0, 1) := by decide +kernel
theorem dX10_fallsBy_1 : decode cX10_fallsBy 1 = .ok (.iload_n 1, 1) := by decide +kernel
theorem dX10_fallsBy_10 : decode cX10_fallsBy 10 = .ok (.bipush 60, 2) := by decide +kernel
theorem dX10_fallsBy_12 : decode cX10_fallsBy 12 = .ok (.invokestatic 170, 3) := by decide +kernel
theorem dX10_fallsBy_15 : decode cX10_fallsBy 15 = .ok (.aload_n 0, 1) := by decide +kernel
theorem dX10_fallsBy_16 : decode cX10_fallsBy 16 = .ok (.getfield 71, 3) := by decide +kernel
theorem dX10_fallsBy_19 : decode cX10_fallsBy 19 = .ok (.aload_n 0, 1) := by decide +kernel
theorem dX10_fallsBy_2 : decode cX10_fallsBy 2 = .ok (.iload_n 2, 1) := by decide +kernel
theorem dX10_fallsBy_20 : decode cX10_fallsBy 20 = .ok (.getfield 57, 3) := by decide +kernel
theorem dX10_fallsBy_23 : decode cX10_fallsBy 23 = .ok (.iload_n 1, 1) := by decide +kernel
theorem dX10_fallsBy_24 : decode cX10_fallsBy 24 = .ok (.iload_n 2, 1) := by decide +kernel
theorem dX10_fallsBy_25 : decode cX10_fallsBy 25 = .ok (.iload_n 3, 1) := by decide +kernel
theorem dX10_fallsBy_26 : decode cX10_fallsBy 26 = .ok (.iload 4, 2) := by decide +kernel
theorem dX10_fallsBy_28 : decode cX10_fallsBy 28 = .ok (.invokevirtual 324, 3) := by decide +kernel
theorem dX10_fallsBy_3 : decode cX10_fallsBy 3 = .ok (.iload_n 3, 1) := by decide +kernel
theorem dX10_fallsBy_31 : decode cX10_fallsBy 31 = .ok (.ireturn, 1) := by decide +kernel
theorem dX10_fallsBy_4 : decode cX10_fallsBy 4 = .ok (.invokevirtual 321, 3) := by decide +kernel
theorem dX10_fallsBy_7 : decode cX10_fallsBy 7 = .ok (.iload 4, 2) := by decide +kernel
theorem dX10_fallsBy_9 : decode cX10_fallsBy 9 = .ok (.iconst 0, 1) := by decide +kernel
theorem dX10_falls_0 : decode cX10_falls 0 = .ok (.aload_n 0, 1) := by decide +kernel
theorem dX10_falls_1 : decode cX10_falls 1 = .ok (.iload_n 1, 1) := by decide +kernel
theorem dX10_falls_10 : decode cX10_falls 10 = .ok (.getfield 57, 3) := by decide +kernel
theorem dX10_falls_13 : decode cX10_falls 13 = .ok (.invokevirtual 289, 3) := by decide +kernel
theorem dX10_falls_16 : decode cX10_falls 16 = .ok (.aload_n 0, 1) := by decide +kernel
theorem dX10_falls_17 : decode cX10_falls 17 = .ok (.getfield 71, 3) := by decide +kernel
theorem dX10_falls_2 : decode cX10_falls 2 = .ok (.invokevirtual 120, 3) := by decide +kernel
theorem dX10_falls_20 : decode cX10_falls 20 = .ok (.iload_n 1, 1) := by decide +kernel
theorem dX10_falls_21 : decode cX10_falls 21 = .ok (.invokevirtual 292, 3) := by decide +kernel
theorem dX10_falls_24 : decode cX10_falls 24 = .ok (.ireturn, 1) := by decide +kernel
theorem dX10_falls_5 : decode cX10_falls 5 = .ok (.aload_n 0, 1) := by decide +kernel
theorem dX10_falls_6 : decode cX10_falls 6 = .ok (.getfield 71, 3) := by decide +kernel
theorem dX10_falls_9 : decode cX10_falls 9 = .ok (.aload_n 0, 1) := by decide +kernel
theorem dX10_frees_0 : decode cX10_frees 0 = .ok (.aload_n 0, 1) := by decide +kernel
theorem dX10_frees_1 : decode cX10_frees 1 = .ok (.iload_n 1, 1) := by decide +kernel
theorem dX10_frees_12 : decode cX10_frees 12 = .ok (.iload_n 1, 1) := by decide +kernel
theorem dX10_frees_13 : decode cX10_frees 13 = .ok (.iaload, 1) := by decide +kernel
theorem dX10_frees_14 : decode cX10_frees 14 = .ok (.iconst 1, 1) := by decide +kernel
theorem dX10_frees_15 : decode cX10_frees 15 = .ok (.if_icmp .eq 14, 3) := by decide +kernel
theorem dX10_frees_18 : decode cX10_frees 18 = .ok (.new 307, 3) := by decide +kernel
theorem dX10_frees_2 : decode cX10_frees 2 = .ok (.invokevirtual 120, 3) := by decide +kernel
theorem dX10_frees_21 : decode cX10_frees 21 = .ok (.dup, 1) := by decide +kernel
theorem dX10_frees_22 : decode cX10_frees 22 = .ok (.ldc_w 309, 3) := by decide +kernel
theorem dX10_frees_25 : decode cX10_frees 25 = .ok (.invokespecial 311, 3) := by decide +kernel
theorem dX10_frees_28 : decode cX10_frees 28 = .ok (.athrow, 1) := by decide +kernel
theorem dX10_frees_29 : decode cX10_frees 29 = .ok (.aload_n 0, 1) := by decide +kernel
theorem dX10_frees_30 : decode cX10_frees 30 = .ok (.getfield 57, 3) := by decide +kernel
theorem dX10_frees_33 : decode cX10_frees 33 = .ok (.aload_n 0, 1) := by decide +kernel
theorem dX10_frees_34 : decode cX10_frees 34 = .ok (.getfield 57, 3) := by decide +kernel
theorem dX10_frees_37 : decode cX10_frees 37 = .ok (.getfield 129, 3) := by decide +kernel
theorem dX10_frees_40 : decode cX10_frees 40 = .ok (.iload_n 1, 1) := by decide +kernel
theorem dX10_frees_41 : decode cX10_frees 41 = .ok (.iaload, 1) := by decide +kernel
theorem dX10_frees_42 : decode cX10_frees 42 = .ok (.iconst 1, 1) := by decide +kernel
theorem dX10_frees_43 : decode cX10_frees 43 = .ok (.iload_n 1, 1) := by decide +kernel
theorem dX10_frees_44 : decode cX10_frees 44 = .ok (.ishl, 1) := by decide +kernel
theorem dX10_frees_45 : decode cX10_frees 45 = .ok (.invokevirtual 312, 3) := by decide +kernel
theorem dX10_frees_48 : decode cX10_frees 48 = .ok (.iconst 1, 1) := by decide +kernel
theorem dX10_frees_49 : decode cX10_frees 49 = .ok (.iload_n 1, 1) := by decide +kernel
theorem dX10_frees_5 : decode cX10_frees 5 = .ok (.aload_n 0, 1) := by decide +kernel
theorem dX10_frees_50 : decode cX10_frees 50 = .ok (.ishl, 1) := by decide +kernel
theorem dX10_frees_51 : decode cX10_frees 51 = .ok (.iconst (-1), 1) := by decide +kernel
theorem dX10_frees_52 : decode cX10_frees 52 = .ok (.ixor, 1) := by decide +kernel
theorem dX10_frees_53 : decode cX10_frees 53 = .ok (.iand, 1) := by decide +kernel
theorem dX10_frees_54 : decode cX10_frees 54 = .ok (.ireturn, 1) := by decide +kernel
theorem dX10_frees_6 : decode cX10_frees 6 = .ok (.getfield 57, 3) := by decide +kernel
theorem dX10_frees_9 : decode cX10_frees 9 = .ok (.getfield 123, 3) := by decide +kernel
theorem dX10_heightIn_0 : decode cX10_heightIn 0 = .ok (.aload_n 0, 1) := by decide +kernel
theorem dX10_heightIn_1 : decode cX10_heightIn 1 = .ok (.iload_n 1, 1) := by decide +kernel
theorem dX10_heightIn_10 : decode cX10_heightIn 10 = .ok (.invokestatic 170, 3) := by decide +kernel
theorem dX10_heightIn_13 : decode cX10_heightIn 13 = .ok (.aload_n 0, 1) := by decide +kernel
theorem dX10_heightIn_14 : decode cX10_heightIn 14 = .ok (.getfield 71, 3) := by decide +kernel
theorem dX10_heightIn_17 : decode cX10_heightIn 17 = .ok (.getfield 240, 3) := by decide +kernel
theorem dX10_heightIn_2 : decode cX10_heightIn 2 = .ok (.invokevirtual 156, 3) := by decide +kernel
theorem dX10_heightIn_20 : decode cX10_heightIn 20 = .ok (.astore_n 3, 1) := by decide +kernel
theorem dX10_heightIn_21 : decode cX10_heightIn 21 = .ok (.aload_n 3, 1) := by decide +kernel
theorem dX10_heightIn_22 : decode cX10_heightIn 22 = .ok (.aload_n 0, 1) := by decide +kernel
theorem dX10_heightIn_23 : decode cX10_heightIn 23 = .ok (.getfield 57, 3) := by decide +kernel
theorem dX10_heightIn_26 : decode cX10_heightIn 26 = .ok (.invokevirtual 106, 3) := by decide +kernel
theorem dX10_heightIn_29 : decode cX10_heightIn 29 = .ok (.aload_n 3, 1) := by decide +kernel
theorem dX10_heightIn_30 : decode cX10_heightIn 30 = .ok (.aload_n 0, 1) := by decide +kernel
theorem dX10_heightIn_31 : decode cX10_heightIn 31 = .ok (.getfield 57, 3) := by decide +kernel
theorem dX10_heightIn_34 : decode cX10_heightIn 34 = .ok (.getfield 135, 3) := by decide +kernel
theorem dX10_heightIn_37 : decode cX10_heightIn 37 = .ok (.iload_n 2, 1) := by decide +kernel
theorem dX10_heightIn_38 : decode cX10_heightIn 38 = .ok (.iadd, 1) := by decide +kernel
theorem dX10_heightIn_39 : decode cX10_heightIn 39 = .ok (.invokevirtual 224, 3) := by decide +kernel
theorem dX10_heightIn_42 : decode cX10_heightIn 42 = .ok (.pop, 1) := by decide +kernel
theorem dX10_heightIn_43 : decode cX10_heightIn 43 = .ok (.aload_n 3, 1) := by decide +kernel
theorem dX10_heightIn_44 : decode cX10_heightIn 44 = .ok (.iload_n 1, 1) := by decide +kernel
theorem dX10_heightIn_45 : decode cX10_heightIn 45 = .ok (.invokevirtual 159, 3) := by decide +kernel
theorem dX10_heightIn_48 : decode cX10_heightIn 48 = .ok (.ireturn, 1) := by decide +kernel
theorem dX10_heightIn_5 : decode cX10_heightIn 5 = .ok (.iload_n 2, 1) := by decide +kernel
theorem dX10_heightIn_6 : decode cX10_heightIn 6 = .ok (.iconst 0, 1) := by decide +kernel
theorem dX10_heightIn_7 : decode cX10_heightIn 7 = .ok (.sipush 999, 3) := by decide +kernel
theorem dX10_hurtIn_0 : decode cX10_hurtIn 0 = .ok (.aload_n 0, 1) := by decide +kernel
theorem dX10_hurtIn_1 : decode cX10_hurtIn 1 = .ok (.iload_n 1, 1) := by decide +kernel
theorem dX10_hurtIn_10 : decode cX10_hurtIn 10 = .ok (.getfield 57, 3) := by decide +kernel
theorem dX10_hurtIn_13 : decode cX10_hurtIn 13 = .ok (.invokevirtual 289, 3) := by decide +kernel
theorem dX10_hurtIn_16 : decode cX10_hurtIn 16 = .ok (.iconst 0, 1) := by decide +kernel
theorem dX10_hurtIn_17 : decode cX10_hurtIn 17 = .ok (.istore_n 2, 1) := by decide +kernel
theorem dX10_hurtIn_18 : decode cX10_hurtIn 18 = .ok (.iload_n 2, 1) := by decide +kernel
theorem dX10_hurtIn_19 : decode cX10_hurtIn 19 = .ok (.aload_n 0, 1) := by decide +kernel
theorem dX10_hurtIn_2 : decode cX10_hurtIn 2 = .ok (.invokevirtual 143, 3) := by decide +kernel
theorem dX10_hurtIn_20 : decode cX10_hurtIn 20 = .ok (.getfield 71, 3) := by decide +kernel
theorem dX10_hurtIn_23 : decode cX10_hurtIn 23 = .ok (.getfield 295, 3) := by decide +kernel
theorem dX10_hurtIn_26 : decode cX10_hurtIn 26 = .ok (.if_icmp .ge 60, 3) := by decide +kernel
theorem dX10_hurtIn_29 : decode cX10_hurtIn 29 = .ok (.aload_n 0, 1) := by decide +kernel
theorem dX10_hurtIn_30 : decode cX10_hurtIn 30 = .ok (.getfield 57, 3) := by decide +kernel
theorem dX10_hurtIn_33 : decode cX10_hurtIn 33 = .ok (.getfield 135, 3) := by decide +kernel
theorem dX10_hurtIn_36 : decode cX10_hurtIn 36 = .ok (.aload_n 0, 1) := by decide +kernel
theorem dX10_hurtIn_37 : decode cX10_hurtIn 37 = .ok (.getfield 71, 3) := by decide +kernel
theorem dX10_hurtIn_40 : decode cX10_hurtIn 40 = .ok (.getfield 298, 3) := by decide +kernel
theorem dX10_hurtIn_43 : decode cX10_hurtIn 43 = .ok (.iload_n 2, 1) := by decide +kernel
theorem dX10_hurtIn_44 : decode cX10_hurtIn 44 = .ok (.iaload, 1) := by decide +kernel
theorem dX10_hurtIn_45 : decode cX10_hurtIn 45 = .ok (.iadd, 1) := by decide +kernel
theorem dX10_hurtIn_46 : decode cX10_hurtIn 46 = .ok (.istore_n 3, 1) := by decide +kernel
theorem dX10_hurtIn_47 : decode cX10_hurtIn 47 = .ok (.aload_n 0, 1) := by decide +kernel
theorem dX10_hurtIn_48 : decode cX10_hurtIn 48 = .ok (.getfield 71, 3) := by decide +kernel
theorem dX10_hurtIn_5 : decode cX10_hurtIn 5 = .ok (.aload_n 0, 1) := by decide +kernel
theorem dX10_hurtIn_51 : decode cX10_hurtIn 51 = .ok (.iload_n 2, 1) := by decide +kernel
theorem dX10_hurtIn_52 : decode cX10_hurtIn 52 = .ok (.aload_n 0, 1) := by decide +kernel
theorem dX10_hurtIn_53 : decode cX10_hurtIn 53 = .ok (.getfield 57, 3) := by decide +kernel
theorem dX10_hurtIn_56 : decode cX10_hurtIn 56 = .ok (.getfield 113, 3) := by decide +kernel
theorem dX10_hurtIn_59 : decode cX10_hurtIn 59 = .ok (.iload_n 1, 1) := by decide +kernel
theorem dX10_hurtIn_6 : decode cX10_hurtIn 6 = .ok (.getfield 71, 3) := by decide +kernel
theorem dX10_hurtIn_60 : decode cX10_hurtIn 60 = .ok (.iload_n 3, 1) := by decide +kernel
theorem dX10_hurtIn_61 : decode cX10_hurtIn 61 = .ok (.invokevirtual 146, 3) := by decide +kernel
theorem dX10_hurtIn_64 : decode cX10_hurtIn 64 = .ok (.invokevirtual 315, 3) := by decide +kernel
theorem dX10_hurtIn_67 : decode cX10_hurtIn 67 = .ok (.ifCond .le 13, 3) := by decide +kernel
theorem dX10_hurtIn_70 : decode cX10_hurtIn 70 = .ok (.aload_n 0, 1) := by decide +kernel
theorem dX10_hurtIn_71 : decode cX10_hurtIn 71 = .ok (.getfield 71, 3) := by decide +kernel
theorem dX10_hurtIn_74 : decode cX10_hurtIn 74 = .ok (.getfield 298, 3) := by decide +kernel
theorem dX10_hurtIn_77 : decode cX10_hurtIn 77 = .ok (.iload_n 2, 1) := by decide +kernel
theorem dX10_hurtIn_78 : decode cX10_hurtIn 78 = .ok (.iaload, 1) := by decide +kernel
theorem dX10_hurtIn_79 : decode cX10_hurtIn 79 = .ok (.ireturn, 1) := by decide +kernel
theorem dX10_hurtIn_80 : decode cX10_hurtIn 80 = .ok (.iinc 2 1, 3) := by decide +kernel
theorem dX10_hurtIn_83 : decode cX10_hurtIn 83 = .ok (.goto (-65), 3) := by decide +kernel
theorem dX10_hurtIn_86 : decode cX10_hurtIn 86 = .ok (.iconst (-1), 1) := by decide +kernel
theorem dX10_hurtIn_87 : decode cX10_hurtIn 87 = .ok (.ireturn, 1) := by decide +kernel
theorem dX10_hurtIn_9 : decode cX10_hurtIn 9 = .ok (.aload_n 0, 1) := by decide +kernel
theorem dX10_hurts_0 : decode cX10_hurts 0 = .ok (.aload_n 0, 1) := by decide +kernel
theorem dX10_hurts_1 : decode cX10_hurts 1 = .ok (.iload_n 1, 1) := by decide +kernel
theorem dX10_hurts_10 : decode cX10_hurts 10 = .ok (.getfield 57, 3) := by decide +kernel
theorem dX10_hurts_13 : decode cX10_hurts 13 = .ok (.invokevirtual 289, 3) := by decide +kernel
theorem dX10_hurts_16 : decode cX10_hurts 16 = .ok (.aload_n 0, 1) := by decide +kernel
theorem dX10_hurts_17 : decode cX10_hurts 17 = .ok (.getfield 71, 3) := by decide +kernel
theorem dX10_hurts_2 : decode cX10_hurts 2 = .ok (.invokevirtual 143, 3) := by decide +kernel
theorem dX10_hurts_20 : decode cX10_hurts 20 = .ok (.iload_n 1, 1) := by decide +kernel
theorem dX10_hurts_21 : decode cX10_hurts 21 = .ok (.iconst 0, 1) := by decide +kernel
theorem dX10_hurts_22 : decode cX10_hurts 22 = .ok (.iconst (-1), 1) := by decide +kernel
theorem dX10_hurts_23 : decode cX10_hurts 23 = .ok (.invokevirtual 318, 3) := by decide +kernel
theorem dX10_hurts_26 : decode cX10_hurts 26 = .ok (.ireturn, 1) := by decide +kernel
theorem dX10_hurts_5 : decode cX10_hurts 5 = .ok (.aload_n 0, 1) := by decide +kernel
theorem dX10_hurts_6 : decode cX10_hurts 6 = .ok (.getfield 71, 3) := by decide +kernel
theorem dX10_hurts_9 : decode cX10_hurts 9 = .ok (.aload_n 0, 1) := by decide +kernel
theorem dX10_lands_0 : decode cX10_lands 0 = .ok (.aload_n 0, 1) := by decide +kernel
theorem dX10_lands_1 : decode cX10_lands 1 = .ok (.iload_n 1, 1) := by decide +kernel
theorem dX10_lands_12 : decode cX10_lands 12 = .ok (.iload_n 1, 1) := by decide +kernel
theorem dX10_lands_13 : decode cX10_lands 13 = .ok (.iaload, 1) := by decide +kernel
theorem dX10_lands_14 : decode cX10_lands 14 = .ok (.iconst 1, 1) := by decide +kernel
theorem dX10_lands_15 : decode cX10_lands 15 = .ok (.if_icmp .eq 5, 3) := by decide +kernel
theorem dX10_lands_18 : decode cX10_lands 18 = .ok (.iconst (-1), 1) := by decide +kernel
theorem dX10_lands_19 : decode cX10_lands 19 = .ok (.ireturn, 1) := by decide +kernel
theorem dX10_lands_2 : decode cX10_lands 2 = .ok (.invokevirtual 120, 3) := by decide +kernel
theorem dX10_lands_20 : decode cX10_lands 20 = .ok (.aload_n 0, 1) := by decide +kernel
theorem dX10_lands_21 : decode cX10_lands 21 = .ok (.getfield 71, 3) := by decide +kernel
theorem dX10_lands_24 : decode cX10_lands 24 = .ok (.aload_n 0, 1) := by decide +kernel
theorem dX10_lands_25 : decode cX10_lands 25 = .ok (.getfield 57, 3) := by decide +kernel
theorem dX10_lands_28 : decode cX10_lands 28 = .ok (.invokevirtual 289, 3) := by decide +kernel
theorem dX10_lands_31 : decode cX10_lands 31 = .ok (.aload_n 0, 1) := by decide +kernel
theorem dX10_lands_32 : decode cX10_lands 32 = .ok (.getfield 71, 3) := by decide +kernel
theorem dX10_lands_35 : decode cX10_lands 35 = .ok (.getfield 240, 3) := by decide +kernel
theorem dX10_lands_38 : decode cX10_lands 38 = .ok (.getfield 132, 3) := by decide +kernel
theorem dX10_lands_41 : decode cX10_lands 41 = .ok (.iload_n 1, 1) := by decide +kernel
theorem dX10_lands_42 : decode cX10_lands 42 = .ok (.iaload, 1) := by decide +kernel
theorem dX10_lands_43 : decode cX10_lands 43 = .ok (.ireturn, 1) := by decide +kernel
theorem dX10_lands_5 : decode cX10_lands 5 = .ok (.aload_n 0, 1) := by decide +kernel
theorem dX10_lands_6 : decode cX10_lands 6 = .ok (.getfield 57, 3) := by decide +kernel
theorem dX10_lands_9 : decode cX10_lands 9 = .ok (.getfield 123, 3) := by decide +kernel
theorem dX10_later_0 : decode cX10_later 0 = .ok (.aload_n 0, 1) := by decide +kernel
theorem dX10_later_1 : decode cX10_later 1 = .ok (.iload_n 1, 1) := by decide +kernel
theorem dX10_later_12 : decode cX10_later 12 = .ok (.aload_n 0, 1) := by decide +kernel
theorem dX10_later_13 : decode cX10_later 13 = .ok (.getfield 71, 3) := by decide +kernel
theorem dX10_later_16 : decode cX10_later 16 = .ok (.aload_n 0, 1) := by decide +kernel
theorem dX10_later_17 : decode cX10_later 17 = .ok (.getfield 57, 3) := by decide +kernel
theorem dX10_later_2 : decode cX10_later 2 = .ok (.invokevirtual 143, 3) := by decide +kernel
theorem dX10_later_20 : decode cX10_later 20 = .ok (.invokevirtual 289, 3) := by decide +kernel
theorem dX10_later_23 : decode cX10_later 23 = .ok (.aload_n 0, 1) := by decide +kernel
theorem dX10_later_24 : decode cX10_later 24 = .ok (.getfield 71, 3) := by decide +kernel
theorem dX10_later_27 : decode cX10_later 27 = .ok (.iload_n 1, 1) := by decide +kernel
theorem dX10_later_28 : decode cX10_later 28 = .ok (.iload_n 2, 1) := by decide +kernel
theorem dX10_later_29 : decode cX10_later 29 = .ok (.iconst (-1), 1) := by decide +kernel
theorem dX10_later_30 : decode cX10_later 30 = .ok (.invokevirtual 318, 3) := by decide +kernel
theorem dX10_later_33 : decode cX10_later 33 = .ok (.ireturn, 1) := by decide +kernel
theorem dX10_later_5 : decode cX10_later 5 = .ok (.iload_n 2, 1) := by decide +kernel
theorem dX10_later_6 : decode cX10_later 6 = .ok (.iconst 0, 1) := by decide +kernel
theorem dX10_later_7 : decode cX10_later 7 = .ok (.bipush 8, 2) := by decide +kernel
theorem dX10_later_9 : decode cX10_later 9 = .ok (.invokestatic 170, 3) := by decide +kernel
theorem dX10_needHeldAndPlace_0 : decode cX10_needHeldAndPlace 0 = .ok (.aload_n 0, 1) := by decide +kernel
theorem dX10_needHeldAndPlace_1 : decode cX10_needHeldAndPlace 1 = .ok (.iload_n 1, 1) := by decide +kernel
theorem dX10_needHeldAndPlace_11 : decode cX10_needHeldAndPlace 11 = .ok (.aload_n 0, 1) := by decide +kernel
theorem dX10_needHeldAndPlace_12 : decode cX10_needHeldAndPlace 12 = .ok (.iload_n 1, 1) := by decide +kernel
theorem dX10_needHeldAndPlace_13 : decode cX10_needHeldAndPlace 13 = .ok (.invokevirtual 331, 3) := by decide +kernel
theorem dX10_needHeldAndPlace_16 : decode cX10_needHeldAndPlace 16 = .ok (.return_, 1) := by decide +kernel
theorem dX10_needHeldAndPlace_2 : decode cX10_needHeldAndPlace 2 = .ok (.invokevirtual 120, 3) := by decide +kernel
theorem dX10_needHeldAndPlace_5 : decode cX10_needHeldAndPlace 5 = .ok (.aload_n 0, 1) := by decide +kernel
theorem dX10_needHeldAndPlace_6 : decode cX10_needHeldAndPlace 6 = .ok (.iload_n 2, 1) := by decide +kernel
theorem dX10_needHeldAndPlace_7 : decode cX10_needHeldAndPlace 7 = .ok (.iload_n 3, 1) := by decide +kernel
theorem dX10_needHeldAndPlace_8 : decode cX10_needHeldAndPlace 8 = .ok (.invokevirtual 163, 3) := by decide +kernel
theorem dX10_needHeld_0 : decode cX10_needHeld 0 = .ok (.aload_n 0, 1) := by decide +kernel
theorem dX10_needHeld_1 : decode cX10_needHeld 1 = .ok (.getfield 57, 3) := by decide +kernel
theorem dX10_needHeld_12 : decode cX10_needHeld 12 = .ok (.new 307, 3) := by decide +kernel
theorem dX10_needHeld_15 : decode cX10_needHeld 15 = .ok (.dup, 1) := by decide +kernel
theorem dX10_needHeld_16 : decode cX10_needHeld 16 = .ok (.ldc_w 344, 3) := by decide +kernel
theorem dX10_needHeld_19 : decode cX10_needHeld 19 = .ok (.invokespecial 311, 3) := by decide +kernel
theorem dX10_needHeld_22 : decode cX10_needHeld 22 = .ok (.athrow, 1) := by decide +kernel
theorem dX10_needHeld_23 : decode cX10_needHeld 23 = .ok (.return_, 1) := by decide +kernel
theorem dX10_needHeld_4 : decode cX10_needHeld 4 = .ok (.getfield 123, 3) := by decide +kernel
theorem dX10_needHeld_7 : decode cX10_needHeld 7 = .ok (.iload_n 1, 1) := by decide +kernel
theorem dX10_needHeld_8 : decode cX10_needHeld 8 = .ok (.iaload, 1) := by decide +kernel
theorem dX10_needHeld_9 : decode cX10_needHeld 9 = .ok (.ifCond .eq 14, 3) := by decide +kernel
theorem dX10_next_0 : decode cX10_next 0 = .ok (.aload_n 0, 1) := by decide +kernel
theorem dX10_next_1 : decode cX10_next 1 = .ok (.getfield 71, 3) := by decide +kernel
theorem dX10_next_11 : decode cX10_next 11 = .ok (.aload_n 0, 1) := by decide +kernel
theorem dX10_next_12 : decode cX10_next 12 = .ok (.getfield 71, 3) := by decide +kernel
theorem dX10_next_15 : decode cX10_next 15 = .ok (.getfield 295, 3) := by decide +kernel
theorem dX10_next_18 : decode cX10_next 18 = .ok (.ifCond .le 15, 3) := by decide +kernel
theorem dX10_next_21 : decode cX10_next 21 = .ok (.aload_n 0, 1) := by decide +kernel
theorem dX10_next_22 : decode cX10_next 22 = .ok (.getfield 71, 3) := by decide +kernel
theorem dX10_next_25 : decode cX10_next 25 = .ok (.getfield 298, 3) := by decide +kernel
theorem dX10_next_28 : decode cX10_next 28 = .ok (.iconst 0, 1) := by decide +kernel
theorem dX10_next_29 : decode cX10_next 29 = .ok (.iaload, 1) := by decide +kernel
theorem dX10_next_30 : decode cX10_next 30 = .ok (.goto 4, 3) := by decide +kernel
theorem dX10_next_33 : decode cX10_next 33 = .ok (.iconst (-1), 1) := by decide +kernel
theorem dX10_next_34 : decode cX10_next 34 = .ok (.ireturn, 1) := by decide +kernel
theorem dX10_next_4 : decode cX10_next 4 = .ok (.aload_n 0, 1) := by decide +kernel
theorem dX10_next_5 : decode cX10_next 5 = .ok (.getfield 57, 3) := by decide +kernel
theorem dX10_next_8 : decode cX10_next 8 = .ok (.invokevirtual 289, 3) := by decide +kernel
theorem dX10_shelter_0 : decode cX10_shelter 0 = .ok (.aload_n 0, 1) := by decide +kernel
theorem dX10_shelter_1 : decode cX10_shelter 1 = .ok (.getfield 71, 3) := by decide +kernel
theorem dX10_shelter_102 : decode cX10_shelter 102 = .ok (.goto (-85), 3) := by decide +kernel
theorem dX10_shelter_105 : decode cX10_shelter 105 = .ok (.iload_n 1, 1) := by decide +kernel
theorem dX10_shelter_106 : decode cX10_shelter 106 = .ok (.ireturn, 1) := by decide +kernel
theorem dX10_shelter_11 : decode cX10_shelter 11 = .ok (.iconst 0, 1) := by decide +kernel
theorem dX10_shelter_12 : decode cX10_shelter 12 = .ok (.istore_n 1, 1) := by decide +kernel
theorem dX10_shelter_13 : decode cX10_shelter 13 = .ok (.iconst (-1), 1) := by decide +kernel
theorem dX10_shelter_14 : decode cX10_shelter 14 = .ok (.istore_n 2, 1) := by decide +kernel
theorem dX10_shelter_15 : decode cX10_shelter 15 = .ok (.iconst 0, 1) := by decide +kernel
theorem dX10_shelter_16 : decode cX10_shelter 16 = .ok (.istore_n 3, 1) := by decide +kernel
theorem dX10_shelter_17 : decode cX10_shelter 17 = .ok (.iload_n 3, 1) := by decide +kernel
theorem dX10_shelter_18 : decode cX10_shelter 18 = .ok (.aload_n 0, 1) := by decide +kernel
theorem dX10_shelter_19 : decode cX10_shelter 19 = .ok (.getfield 57, 3) := by decide +kernel
theorem dX10_shelter_22 : decode cX10_shelter 22 = .ok (.getfield 113, 3) := by decide +kernel
theorem dX10_shelter_25 : decode cX10_shelter 25 = .ok (.getfield 191, 3) := by decide +kernel
theorem dX10_shelter_28 : decode cX10_shelter 28 = .ok (.if_icmp .ge 77, 3) := by decide +kernel
theorem dX10_shelter_31 : decode cX10_shelter 31 = .ok (.bipush 60, 2) := by decide +kernel
theorem dX10_shelter_33 : decode cX10_shelter 33 = .ok (.istore 4, 2) := by decide +kernel
theorem dX10_shelter_35 : decode cX10_shelter 35 = .ok (.iconst 0, 1) := by decide +kernel
theorem dX10_shelter_36 : decode cX10_shelter 36 = .ok (.istore 5, 2) := by decide +kernel
theorem dX10_shelter_38 : decode cX10_shelter 38 = .ok (.iload 5, 2) := by decide +kernel
theorem dX10_shelter_4 : decode cX10_shelter 4 = .ok (.aload_n 0, 1) := by decide +kernel
theorem dX10_shelter_40 : decode cX10_shelter 40 = .ok (.aload_n 0, 1) := by decide +kernel
theorem dX10_shelter_41 : decode cX10_shelter 41 = .ok (.getfield 71, 3) := by decide +kernel
theorem dX10_shelter_44 : decode cX10_shelter 44 = .ok (.getfield 295, 3) := by decide +kernel
theorem dX10_shelter_47 : decode cX10_shelter 47 = .ok (.if_icmp .ge 41, 3) := by decide +kernel
theorem dX10_shelter_5 : decode cX10_shelter 5 = .ok (.getfield 57, 3) := by decide +kernel
theorem dX10_shelter_50 : decode cX10_shelter 50 = .ok (.aload_n 0, 1) := by decide +kernel
theorem dX10_shelter_51 : decode cX10_shelter 51 = .ok (.getfield 71, 3) := by decide +kernel
theorem dX10_shelter_54 : decode cX10_shelter 54 = .ok (.iload 5, 2) := by decide +kernel
theorem dX10_shelter_56 : decode cX10_shelter 56 = .ok (.iload_n 3, 1) := by decide +kernel
theorem dX10_shelter_57 : decode cX10_shelter 57 = .ok (.invokevirtual 315, 3) := by decide +kernel
theorem dX10_shelter_60 : decode cX10_shelter 60 = .ok (.ifCond .le 22, 3) := by decide +kernel
theorem dX10_shelter_63 : decode cX10_shelter 63 = .ok (.iload 4, 2) := by decide +kernel
theorem dX10_shelter_65 : decode cX10_shelter 65 = .ok (.aload_n 0, 1) := by decide +kernel
theorem dX10_shelter_66 : decode cX10_shelter 66 = .ok (.getfield 71, 3) := by decide +kernel
theorem dX10_shelter_69 : decode cX10_shelter 69 = .ok (.getfield 298, 3) := by decide +kernel
theorem dX10_shelter_72 : decode cX10_shelter 72 = .ok (.iload 5, 2) := by decide +kernel
theorem dX10_shelter_74 : decode cX10_shelter 74 = .ok (.iaload, 1) := by decide +kernel
theorem dX10_shelter_75 : decode cX10_shelter 75 = .ok (.iconst 1, 1) := by decide +kernel
theorem dX10_shelter_76 : decode cX10_shelter 76 = .ok (.isub, 1) := by decide +kernel
theorem dX10_shelter_77 : decode cX10_shelter 77 = .ok (.invokestatic 363, 3) := by decide +kernel
theorem dX10_shelter_8 : decode cX10_shelter 8 = .ok (.invokevirtual 289, 3) := by decide +kernel
theorem dX10_shelter_80 : decode cX10_shelter 80 = .ok (.istore 4, 2) := by decide +kernel
theorem dX10_shelter_82 : decode cX10_shelter 82 = .ok (.iinc 5 1, 3) := by decide +kernel
theorem dX10_shelter_85 : decode cX10_shelter 85 = .ok (.goto (-47), 3) := by decide +kernel
theorem dX10_shelter_88 : decode cX10_shelter 88 = .ok (.iload 4, 2) := by decide +kernel
theorem dX10_shelter_90 : decode cX10_shelter 90 = .ok (.iload_n 2, 1) := by decide +kernel
theorem dX10_shelter_91 : decode cX10_shelter 91 = .ok (.if_icmp .le 8, 3) := by decide +kernel
theorem dX10_shelter_94 : decode cX10_shelter 94 = .ok (.iload 4, 2) := by decide +kernel
theorem dX10_shelter_96 : decode cX10_shelter 96 = .ok (.istore_n 2, 1) := by decide +kernel
theorem dX10_shelter_97 : decode cX10_shelter 97 = .ok (.iload_n 3, 1) := by decide +kernel
theorem dX10_shelter_98 : decode cX10_shelter 98 = .ok (.istore_n 1, 1) := by decide +kernel
theorem dX10_shelter_99 : decode cX10_shelter 99 = .ok (.iinc 3 1, 3) := by decide +kernel
theorem dX10_spares_0 : decode cX10_spares 0 = .ok (.aload_n 0, 1) := by decide +kernel
theorem dX10_spares_1 : decode cX10_spares 1 = .ok (.iload_n 1, 1) := by decide +kernel
theorem dX10_spares_10 : decode cX10_spares 10 = .ok (.aload_n 0, 1) := by decide +kernel
theorem dX10_spares_11 : decode cX10_spares 11 = .ok (.getfield 71, 3) := by decide +kernel
theorem dX10_spares_14 : decode cX10_spares 14 = .ok (.aload_n 0, 1) := by decide +kernel
theorem dX10_spares_15 : decode cX10_spares 15 = .ok (.getfield 57, 3) := by decide +kernel
theorem dX10_spares_18 : decode cX10_spares 18 = .ok (.invokevirtual 289, 3) := by decide +kernel
theorem dX10_spares_2 : decode cX10_spares 2 = .ok (.invokevirtual 143, 3) := by decide +kernel
theorem dX10_spares_21 : decode cX10_spares 21 = .ok (.aload_n 0, 1) := by decide +kernel
theorem dX10_spares_22 : decode cX10_spares 22 = .ok (.getfield 71, 3) := by decide +kernel
theorem dX10_spares_25 : decode cX10_spares 25 = .ok (.iload_n 1, 1) := by decide +kernel
theorem dX10_spares_26 : decode cX10_spares 26 = .ok (.iconst 0, 1) := by decide +kernel
theorem dX10_spares_27 : decode cX10_spares 27 = .ok (.iload_n 2, 1) := by decide +kernel
theorem dX10_spares_28 : decode cX10_spares 28 = .ok (.invokevirtual 318, 3) := by decide +kernel
theorem dX10_spares_31 : decode cX10_spares 31 = .ok (.ireturn, 1) := by decide +kernel
theorem dX10_spares_5 : decode cX10_spares 5 = .ok (.aload_n 0, 1) := by decide +kernel
theorem dX10_spares_6 : decode cX10_spares 6 = .ok (.iload_n 2, 1) := by decide +kernel
theorem dX10_spares_7 : decode cX10_spares 7 = .ok (.invokevirtual 156, 3) := by decide +kernel
