theorem dX11_does_0 : decode cX11_does 0 = .ok (.iload_n 1, 1) := by decide +kernel
theorem dX11_does_1 : decode cX11_does 1 = .ok (.iconst (-1), 1) := by decide +kernel
theorem dX11_does_12 : decode cX11_does 12 = .ok (.iload_n 1, 1) := by decide +kernel
theorem dX11_does_13 : decode cX11_does 13 = .ok (.sipush 1000, 3) := by decide +kernel
theorem dX11_does_16 : decode cX11_does 16 = .ok (.if_icmp .ge 26, 3) := by decide +kernel
theorem dX11_does_19 : decode cX11_does 19 = .ok (.aload_n 0, 1) := by decide +kernel
theorem dX11_does_2 : decode cX11_does 2 = .ok (.if_icmp .ne 10, 3) := by decide +kernel
theorem dX11_does_20 : decode cX11_does 20 = .ok (.iload_n 1, 1) := by decide +kernel
theorem dX11_does_21 : decode cX11_does 21 = .ok (.bipush 100, 2) := by decide +kernel
theorem dX11_does_23 : decode cX11_does 23 = .ok (.idiv, 1) := by decide +kernel
theorem dX11_does_24 : decode cX11_does 24 = .ok (.iload_n 1, 1) := by decide +kernel
theorem dX11_does_25 : decode cX11_does 25 = .ok (.bipush 10, 2) := by decide +kernel
theorem dX11_does_27 : decode cX11_does 27 = .ok (.idiv, 1) := by decide +kernel
theorem dX11_does_28 : decode cX11_does 28 = .ok (.bipush 10, 2) := by decide +kernel
theorem dX11_does_30 : decode cX11_does 30 = .ok (.irem, 1) := by decide +kernel
theorem dX11_does_31 : decode cX11_does 31 = .ok (.iload_n 1, 1) := by decide +kernel
theorem dX11_does_32 : decode cX11_does 32 = .ok (.bipush 10, 2) := by decide +kernel
theorem dX11_does_34 : decode cX11_does 34 = .ok (.irem, 1) := by decide +kernel
theorem dX11_does_35 : decode cX11_does 35 = .ok (.invokevirtual 386, 3) := by decide +kernel
theorem dX11_does_38 : decode cX11_does 38 = .ok (.pop, 1) := by decide +kernel
theorem dX11_does_39 : decode cX11_does 39 = .ok (.goto 27, 3) := by decide +kernel
theorem dX11_does_42 : decode cX11_does 42 = .ok (.iload_n 1, 1) := by decide +kernel
theorem dX11_does_43 : decode cX11_does 43 = .ok (.sipush 2000, 3) := by decide +kernel
theorem dX11_does_46 : decode cX11_does 46 = .ok (.if_icmp .ge 15, 3) := by decide +kernel
theorem dX11_does_49 : decode cX11_does 49 = .ok (.aload_n 0, 1) := by decide +kernel
theorem dX11_does_5 : decode cX11_does 5 = .ok (.aload_n 0, 1) := by decide +kernel
theorem dX11_does_50 : decode cX11_does 50 = .ok (.iload_n 1, 1) := by decide +kernel
theorem dX11_does_51 : decode cX11_does 51 = .ok (.sipush 1000, 3) := by decide +kernel
theorem dX11_does_54 : decode cX11_does 54 = .ok (.isub, 1) := by decide +kernel
theorem dX11_does_55 : decode cX11_does 55 = .ok (.invokevirtual 393, 3) := by decide +kernel
theorem dX11_does_58 : decode cX11_does 58 = .ok (.goto 8, 3) := by decide +kernel
theorem dX11_does_6 : decode cX11_does 6 = .ok (.invokevirtual 401, 3) := by decide +kernel
theorem dX11_does_61 : decode cX11_does 61 = .ok (.aload_n 0, 1) := by decide +kernel
theorem dX11_does_62 : decode cX11_does 62 = .ok (.invokevirtual 396, 3) := by decide +kernel
theorem dX11_does_65 : decode cX11_does 65 = .ok (.pop, 1) := by decide +kernel
theorem dX11_does_66 : decode cX11_does 66 = .ok (.return_, 1) := by decide +kernel
theorem dX11_does_9 : decode cX11_does 9 = .ok (.goto 57, 3) := by decide +kernel
theorem dX11_letGo_0 : decode cX11_letGo 0 = .ok (.aload_n 0, 1) := by decide +kernel
theorem dX11_letGo_1 : decode cX11_letGo 1 = .ok (.iconst 0, 1) := by decide +kernel
theorem dX11_letGo_10 : decode cX11_letGo 10 = .ok (.iload_n 3, 1) := by decide +kernel
theorem dX11_letGo_11 : decode cX11_letGo 11 = .ok (.i2l, 1) := by decide +kernel
theorem dX11_letGo_12 : decode cX11_letGo 12 = .ok (.invokevirtual 379, 3) := by decide +kernel
theorem dX11_letGo_15 : decode cX11_letGo 15 = .ok (.istore 4, 2) := by decide +kernel
theorem dX11_letGo_17 : decode cX11_letGo 17 = .ok (.iload 4, 2) := by decide +kernel
theorem dX11_letGo_19 : decode cX11_letGo 19 = .ok (.ifCond .eq 7, 3) := by decide +kernel
theorem dX11_letGo_2 : decode cX11_letGo 2 = .ok (.putfield 70, 3) := by decide +kernel
theorem dX11_letGo_22 : decode cX11_letGo 22 = .ok (.iload 4, 2) := by decide +kernel
theorem dX11_letGo_24 : decode cX11_letGo 24 = .ok (.ineg, 1) := by decide +kernel
theorem dX11_letGo_25 : decode cX11_letGo 25 = .ok (.ireturn, 1) := by decide +kernel
theorem dX11_letGo_26 : decode cX11_letGo 26 = .ok (.aload_n 0, 1) := by decide +kernel
theorem dX11_letGo_27 : decode cX11_letGo 27 = .ok (.invokevirtual 383, 3) := by decide +kernel
theorem dX11_letGo_30 : decode cX11_letGo 30 = .ok (.aload_n 0, 1) := by decide +kernel
theorem dX11_letGo_31 : decode cX11_letGo 31 = .ok (.iload_n 1, 1) := by decide +kernel
theorem dX11_letGo_32 : decode cX11_letGo 32 = .ok (.iload_n 2, 1) := by decide +kernel
theorem dX11_letGo_33 : decode cX11_letGo 33 = .ok (.iload_n 3, 1) := by decide +kernel
theorem dX11_letGo_34 : decode cX11_letGo 34 = .ok (.invokevirtual 386, 3) := by decide +kernel
theorem dX11_letGo_37 : decode cX11_letGo 37 = .ok (.ireturn, 1) := by decide +kernel
theorem dX11_letGo_5 : decode cX11_letGo 5 = .ok (.aload_n 0, 1) := by decide +kernel
theorem dX11_letGo_6 : decode cX11_letGo 6 = .ok (.iload_n 1, 1) := by decide +kernel
theorem dX11_letGo_7 : decode cX11_letGo 7 = .ok (.i2l, 1) := by decide +kernel
theorem dX11_letGo_8 : decode cX11_letGo 8 = .ok (.iload_n 2, 1) := by decide +kernel
theorem dX11_letGo_9 : decode cX11_letGo 9 = .ok (.i2l, 1) := by decide +kernel
theorem dX11_perform_0 : decode cX11_perform 0 = .ok (.aload_n 0, 1) := by decide +kernel
theorem dX11_perform_1 : decode cX11_perform 1 = .ok (.aload_n 0, 1) := by decide +kernel
theorem dX11_perform_10 : decode cX11_perform 10 = .ok (.getfield 70, 3) := by decide +kernel
theorem dX11_perform_13 : decode cX11_perform 13 = .ok (.ifCond .le 5, 3) := by decide +kernel
theorem dX11_perform_16 : decode cX11_perform 16 = .ok (.iconst 0, 1) := by decide +kernel
theorem dX11_perform_17 : decode cX11_perform 17 = .ok (.ireturn, 1) := by decide +kernel
theorem dX11_perform_18 : decode cX11_perform 18 = .ok (.iconst 0, 1) := by decide +kernel
theorem dX11_perform_19 : decode cX11_perform 19 = .ok (.istore_n 2, 1) := by decide +kernel
theorem dX11_perform_2 : decode cX11_perform 2 = .ok (.iload_n 1, 1) := by decide +kernel
theorem dX11_perform_20 : decode cX11_perform 20 = .ok (.iload_n 2, 1) := by decide +kernel
theorem dX11_perform_21 : decode cX11_perform 21 = .ok (.aload_n 0, 1) := by decide +kernel
theorem dX11_perform_22 : decode cX11_perform 22 = .ok (.getfield 64, 3) := by decide +kernel
theorem dX11_perform_25 : decode cX11_perform 25 = .ok (.iload_n 1, 1) := by decide +kernel
theorem dX11_perform_26 : decode cX11_perform 26 = .ok (.iaload, 1) := by decide +kernel
theorem dX11_perform_27 : decode cX11_perform 27 = .ok (.if_icmp .ge 47, 3) := by decide +kernel
theorem dX11_perform_3 : decode cX11_perform 3 = .ok (.invokevirtual 420, 3) := by decide +kernel
theorem dX11_perform_30 : decode cX11_perform 30 = .ok (.aload_n 0, 1) := by decide +kernel
theorem dX11_perform_31 : decode cX11_perform 31 = .ok (.aload_n 0, 1) := by decide +kernel
theorem dX11_perform_32 : decode cX11_perform 32 = .ok (.getfield 67, 3) := by decide +kernel
theorem dX11_perform_35 : decode cX11_perform 35 = .ok (.bipush 30, 2) := by decide +kernel
theorem dX11_perform_37 : decode cX11_perform 37 = .ok (.iload_n 1, 1) := by decide +kernel
theorem dX11_perform_38 : decode cX11_perform 38 = .ok (.imul, 1) := by decide +kernel
theorem dX11_perform_39 : decode cX11_perform 39 = .ok (.iload_n 2, 1) := by decide +kernel
theorem dX11_perform_40 : decode cX11_perform 40 = .ok (.iadd, 1) := by decide +kernel
theorem dX11_perform_41 : decode cX11_perform 41 = .ok (.laload, 1) := by decide +kernel
theorem dX11_perform_42 : decode cX11_perform 42 = .ok (.invokevirtual 428, 3) := by decide +kernel
theorem dX11_perform_45 : decode cX11_perform 45 = .ok (.ifCond .ne 29, 3) := by decide +kernel
theorem dX11_perform_48 : decode cX11_perform 48 = .ok (.aload_n 0, 1) := by decide +kernel
theorem dX11_perform_49 : decode cX11_perform 49 = .ok (.invokevirtual 383, 3) := by decide +kernel
theorem dX11_perform_52 : decode cX11_perform 52 = .ok (.aload_n 0, 1) := by decide +kernel
theorem dX11_perform_53 : decode cX11_perform 53 = .ok (.aload_n 0, 1) := by decide +kernel
theorem dX11_perform_54 : decode cX11_perform 54 = .ok (.getfield 67, 3) := by decide +kernel
theorem dX11_perform_57 : decode cX11_perform 57 = .ok (.bipush 30, 2) := by decide +kernel
theorem dX11_perform_59 : decode cX11_perform 59 = .ok (.iload_n 1, 1) := by decide +kernel
theorem dX11_perform_6 : decode cX11_perform 6 = .ok (.putfield 70, 3) := by decide +kernel
theorem dX11_perform_60 : decode cX11_perform 60 = .ok (.imul, 1) := by decide +kernel
theorem dX11_perform_61 : decode cX11_perform 61 = .ok (.iload_n 2, 1) := by decide +kernel
theorem dX11_perform_62 : decode cX11_perform 62 = .ok (.iadd, 1) := by decide +kernel
theorem dX11_perform_63 : decode cX11_perform 63 = .ok (.laload, 1) := by decide +kernel
theorem dX11_perform_64 : decode cX11_perform 64 = .ok (.l2i, 1) := by decide +kernel
theorem dX11_perform_65 : decode cX11_perform 65 = .ok (.invokevirtual 431, 3) := by decide +kernel
theorem dX11_perform_68 : decode cX11_perform 68 = .ok (.iinc 2 1, 3) := by decide +kernel
theorem dX11_perform_71 : decode cX11_perform 71 = .ok (.goto (-51), 3) := by decide +kernel
theorem dX11_perform_74 : decode cX11_perform 74 = .ok (.iload_n 2, 1) := by decide +kernel
theorem dX11_perform_75 : decode cX11_perform 75 = .ok (.ireturn, 1) := by decide +kernel
theorem dX11_perform_9 : decode cX11_perform 9 = .ok (.aload_n 0, 1) := by decide +kernel
theorem dX11_whyTold_0 : decode cX11_whyTold 0 = .ok (.lload_n 1, 1) := by decide +kernel
theorem dX11_whyTold_1 : decode cX11_whyTold 1 = .ok (.ldc2_w 408, 3) := by decide +kernel
theorem dX11_whyTold_12 : decode cX11_whyTold 12 = .ok (.lcmp, 1) := by decide +kernel
theorem dX11_whyTold_13 : decode cX11_whyTold 13 = .ok (.ifCond .ne 5, 3) := by decide +kernel
theorem dX11_whyTold_16 : decode cX11_whyTold 16 = .ok (.iconst 0, 1) := by decide +kernel
theorem dX11_whyTold_17 : decode cX11_whyTold 17 = .ok (.ireturn, 1) := by decide +kernel
theorem dX11_whyTold_18 : decode cX11_whyTold 18 = .ok (.lload_n 1, 1) := by decide +kernel
theorem dX11_whyTold_19 : decode cX11_whyTold 19 = .ok (.lconst 0, 1) := by decide +kernel
theorem dX11_whyTold_20 : decode cX11_whyTold 20 = .ok (.ldc2_w 412, 3) := by decide +kernel
theorem dX11_whyTold_23 : decode cX11_whyTold 23 = .ok (.invokestatic 131, 3) := by decide +kernel
theorem dX11_whyTold_26 : decode cX11_whyTold 26 = .ok (.ifCond .eq 27, 3) := by decide +kernel
theorem dX11_whyTold_29 : decode cX11_whyTold 29 = .ok (.aload_n 0, 1) := by decide +kernel
theorem dX11_whyTold_30 : decode cX11_whyTold 30 = .ok (.lload_n 1, 1) := by decide +kernel
theorem dX11_whyTold_31 : decode cX11_whyTold 31 = .ok (.ldc2_w 414, 3) := by decide +kernel
theorem dX11_whyTold_34 : decode cX11_whyTold 34 = .ok (.ldiv, 1) := by decide +kernel
theorem dX11_whyTold_35 : decode cX11_whyTold 35 = .ok (.lload_n 1, 1) := by decide +kernel
theorem dX11_whyTold_36 : decode cX11_whyTold 36 = .ok (.ldc2_w 403, 3) := by decide +kernel
theorem dX11_whyTold_39 : decode cX11_whyTold 39 = .ok (.ldiv, 1) := by decide +kernel
theorem dX11_whyTold_4 : decode cX11_whyTold 4 = .ok (.lcmp, 1) := by decide +kernel
theorem dX11_whyTold_40 : decode cX11_whyTold 40 = .ok (.ldc2_w 403, 3) := by decide +kernel
theorem dX11_whyTold_43 : decode cX11_whyTold 43 = .ok (.lrem, 1) := by decide +kernel
theorem dX11_whyTold_44 : decode cX11_whyTold 44 = .ok (.lload_n 1, 1) := by decide +kernel
theorem dX11_whyTold_45 : decode cX11_whyTold 45 = .ok (.ldc2_w 403, 3) := by decide +kernel
theorem dX11_whyTold_48 : decode cX11_whyTold 48 = .ok (.lrem, 1) := by decide +kernel
theorem dX11_whyTold_49 : decode cX11_whyTold 49 = .ok (.invokevirtual 379, 3) := by decide +kernel
theorem dX11_whyTold_5 : decode cX11_whyTold 5 = .ok (.ifCond .eq 11, 3) := by decide +kernel
theorem dX11_whyTold_52 : decode cX11_whyTold 52 = .ok (.ireturn, 1) := by decide +kernel
theorem dX11_whyTold_53 : decode cX11_whyTold 53 = .ok (.lload_n 1, 1) := by decide +kernel
theorem dX11_whyTold_54 : decode cX11_whyTold 54 = .ok (.ldc2_w 416, 3) := by decide +kernel
theorem dX11_whyTold_57 : decode cX11_whyTold 57 = .ok (.ldc2_w 418, 3) := by decide +kernel
theorem dX11_whyTold_60 : decode cX11_whyTold 60 = .ok (.invokestatic 131, 3) := by decide +kernel
theorem dX11_whyTold_63 : decode cX11_whyTold 63 = .ok (.ifCond .eq 15, 3) := by decide +kernel
theorem dX11_whyTold_66 : decode cX11_whyTold 66 = .ok (.aload_n 0, 1) := by decide +kernel
theorem dX11_whyTold_67 : decode cX11_whyTold 67 = .ok (.lload_n 1, 1) := by decide +kernel
theorem dX11_whyTold_68 : decode cX11_whyTold 68 = .ok (.ldc2_w 416, 3) := by decide +kernel
theorem dX11_whyTold_71 : decode cX11_whyTold 71 = .ok (.lsub, 1) := by decide +kernel
theorem dX11_whyTold_72 : decode cX11_whyTold 72 = .ok (.invokevirtual 390, 3) := by decide +kernel
theorem dX11_whyTold_75 : decode cX11_whyTold 75 = .ok (.goto 4, 3) := by decide +kernel
theorem dX11_whyTold_78 : decode cX11_whyTold 78 = .ok (.iconst 1, 1) := by decide +kernel
theorem dX11_whyTold_79 : decode cX11_whyTold 79 = .ok (.ireturn, 1) := by decide +kernel
theorem dX11_whyTold_8 : decode cX11_whyTold 8 = .ok (.lload_n 1, 1) := by decide +kernel
theorem dX11_whyTold_9 : decode cX11_whyTold 9 = .ok (.ldc2_w 410, 3) := by decide +kernel
