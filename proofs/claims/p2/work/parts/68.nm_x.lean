theorem dX11_comesToo_0 : decode cX11_comesToo 0 = .ok (.aload_n 0, 1) := by decide +kernel
theorem dX11_comesToo_1 : decode cX11_comesToo 1 = .ok (.getfield 9, 3) := by decide +kernel
theorem dX11_comesToo_10 : decode cX11_comesToo 10 = .ok (.iload_n 2, 1) := by decide +kernel
theorem dX11_comesToo_11 : decode cX11_comesToo 11 = .ok (.invokevirtual 311, 3) := by decide +kernel
theorem dX11_comesToo_14 : decode cX11_comesToo 14 = .ok (.iload_n 3, 1) := by decide +kernel
theorem dX11_comesToo_15 : decode cX11_comesToo 15 = .ok (.invokestatic 330, 3) := by decide +kernel
theorem dX11_comesToo_18 : decode cX11_comesToo 18 = .ok (.iadd, 1) := by decide +kernel
theorem dX11_comesToo_19 : decode cX11_comesToo 19 = .ok (.if_icmp .ge 5, 3) := by decide +kernel
theorem dX11_comesToo_22 : decode cX11_comesToo 22 = .ok (.iconst 1, 1) := by decide +kernel
theorem dX11_comesToo_23 : decode cX11_comesToo 23 = .ok (.ireturn, 1) := by decide +kernel
theorem dX11_comesToo_24 : decode cX11_comesToo 24 = .ok (.iconst 0, 1) := by decide +kernel
theorem dX11_comesToo_25 : decode cX11_comesToo 25 = .ok (.istore 4, 2) := by decide +kernel
theorem dX11_comesToo_27 : decode cX11_comesToo 27 = .ok (.iload 4, 2) := by decide +kernel
theorem dX11_comesToo_29 : decode cX11_comesToo 29 = .ok (.aload_n 0, 1) := by decide +kernel
theorem dX11_comesToo_30 : decode cX11_comesToo 30 = .ok (.invokevirtual 280, 3) := by decide +kernel
theorem dX11_comesToo_33 : decode cX11_comesToo 33 = .ok (.if_icmp .ge 52, 3) := by decide +kernel
theorem dX11_comesToo_36 : decode cX11_comesToo 36 = .ok (.iload_n 3, 1) := by decide +kernel
theorem dX11_comesToo_37 : decode cX11_comesToo 37 = .ok (.iload 4, 2) := by decide +kernel
theorem dX11_comesToo_39 : decode cX11_comesToo 39 = .ok (.invokestatic 323, 3) := by decide +kernel
theorem dX11_comesToo_4 : decode cX11_comesToo 4 = .ok (.bipush 24, 2) := by decide +kernel
theorem dX11_comesToo_42 : decode cX11_comesToo 42 = .ok (.ifCond .eq 37, 3) := by decide +kernel
theorem dX11_comesToo_45 : decode cX11_comesToo 45 = .ok (.aload_n 0, 1) := by decide +kernel
theorem dX11_comesToo_46 : decode cX11_comesToo 46 = .ok (.getfield 9, 3) := by decide +kernel
theorem dX11_comesToo_49 : decode cX11_comesToo 49 = .ok (.bipush 24, 2) := by decide +kernel
theorem dX11_comesToo_51 : decode cX11_comesToo 51 = .ok (.iload 4, 2) := by decide +kernel
theorem dX11_comesToo_53 : decode cX11_comesToo 53 = .ok (.iadd, 1) := by decide +kernel
theorem dX11_comesToo_54 : decode cX11_comesToo 54 = .ok (.iaload, 1) := by decide +kernel
theorem dX11_comesToo_55 : decode cX11_comesToo 55 = .ok (.aload_n 0, 1) := by decide +kernel
theorem dX11_comesToo_56 : decode cX11_comesToo 56 = .ok (.getfield 9, 3) := by decide +kernel
theorem dX11_comesToo_59 : decode cX11_comesToo 59 = .ok (.bipush 24, 2) := by decide +kernel
theorem dX11_comesToo_6 : decode cX11_comesToo 6 = .ok (.iload_n 1, 1) := by decide +kernel
theorem dX11_comesToo_61 : decode cX11_comesToo 61 = .ok (.iload_n 1, 1) := by decide +kernel
theorem dX11_comesToo_62 : decode cX11_comesToo 62 = .ok (.iadd, 1) := by decide +kernel
theorem dX11_comesToo_63 : decode cX11_comesToo 63 = .ok (.iaload, 1) := by decide +kernel
theorem dX11_comesToo_64 : decode cX11_comesToo 64 = .ok (.if_icmp .le 15, 3) := by decide +kernel
theorem dX11_comesToo_67 : decode cX11_comesToo 67 = .ok (.aload_n 0, 1) := by decide +kernel
theorem dX11_comesToo_68 : decode cX11_comesToo 68 = .ok (.iload 4, 2) := by decide +kernel
theorem dX11_comesToo_7 : decode cX11_comesToo 7 = .ok (.iadd, 1) := by decide +kernel
theorem dX11_comesToo_70 : decode cX11_comesToo 70 = .ok (.iload_n 1, 1) := by decide +kernel
theorem dX11_comesToo_71 : decode cX11_comesToo 71 = .ok (.invokevirtual 333, 3) := by decide +kernel
theorem dX11_comesToo_74 : decode cX11_comesToo 74 = .ok (.ifCond .eq 5, 3) := by decide +kernel
theorem dX11_comesToo_77 : decode cX11_comesToo 77 = .ok (.iconst 1, 1) := by decide +kernel
theorem dX11_comesToo_78 : decode cX11_comesToo 78 = .ok (.ireturn, 1) := by decide +kernel
theorem dX11_comesToo_79 : decode cX11_comesToo 79 = .ok (.iinc 4 1, 3) := by decide +kernel
theorem dX11_comesToo_8 : decode cX11_comesToo 8 = .ok (.iaload, 1) := by decide +kernel
theorem dX11_comesToo_82 : decode cX11_comesToo 82 = .ok (.goto (-55), 3) := by decide +kernel
theorem dX11_comesToo_85 : decode cX11_comesToo 85 = .ok (.iconst 0, 1) := by decide +kernel
theorem dX11_comesToo_86 : decode cX11_comesToo 86 = .ok (.ireturn, 1) := by decide +kernel
theorem dX11_comesToo_9 : decode cX11_comesToo 9 = .ok (.aload_n 0, 1) := by decide +kernel
theorem dX11_hanging_0 : decode cX11_hanging 0 = .ok (.aload_n 0, 1) := by decide +kernel
theorem dX11_hanging_1 : decode cX11_hanging 1 = .ok (.aload_n 0, 1) := by decide +kernel
theorem dX11_hanging_10 : decode cX11_hanging 10 = .ok (.aload_n 0, 1) := by decide +kernel
theorem dX11_hanging_11 : decode cX11_hanging 11 = .ok (.iload_n 2, 1) := by decide +kernel
theorem dX11_hanging_12 : decode cX11_hanging 12 = .ok (.i2l, 1) := by decide +kernel
theorem dX11_hanging_13 : decode cX11_hanging 13 = .ok (.iload_n 3, 1) := by decide +kernel
theorem dX11_hanging_14 : decode cX11_hanging 14 = .ok (.i2l, 1) := by decide +kernel
theorem dX11_hanging_15 : decode cX11_hanging 15 = .ok (.invokevirtual 373, 3) := by decide +kernel
theorem dX11_hanging_18 : decode cX11_hanging 18 = .ok (.ifCond .ne 7, 3) := by decide +kernel
theorem dX11_hanging_2 : decode cX11_hanging 2 = .ok (.iload_n 1, 1) := by decide +kernel
theorem dX11_hanging_21 : decode cX11_hanging 21 = .ok (.iconst 1, 1) := by decide +kernel
theorem dX11_hanging_22 : decode cX11_hanging 22 = .ok (.goto 21, 3) := by decide +kernel
theorem dX11_hanging_25 : decode cX11_hanging 25 = .ok (.iload 4, 2) := by decide +kernel
theorem dX11_hanging_27 : decode cX11_hanging 27 = .ok (.i2l, 1) := by decide +kernel
theorem dX11_hanging_28 : decode cX11_hanging 28 = .ok (.lconst 0, 1) := by decide +kernel
theorem dX11_hanging_29 : decode cX11_hanging 29 = .ok (.ldc2_w 377, 3) := by decide +kernel
theorem dX11_hanging_3 : decode cX11_hanging 3 = .ok (.i2l, 1) := by decide +kernel
theorem dX11_hanging_32 : decode cX11_hanging 32 = .ok (.invokestatic 131, 3) := by decide +kernel
theorem dX11_hanging_35 : decode cX11_hanging 35 = .ok (.ifCond .eq 7, 3) := by decide +kernel
theorem dX11_hanging_38 : decode cX11_hanging 38 = .ok (.iconst 0, 1) := by decide +kernel
theorem dX11_hanging_39 : decode cX11_hanging 39 = .ok (.goto 4, 3) := by decide +kernel
theorem dX11_hanging_4 : decode cX11_hanging 4 = .ok (.invokevirtual 363, 3) := by decide +kernel
theorem dX11_hanging_42 : decode cX11_hanging 42 = .ok (.iconst 2, 1) := by decide +kernel
theorem dX11_hanging_43 : decode cX11_hanging 43 = .ok (.putfield 70, 3) := by decide +kernel
theorem dX11_hanging_46 : decode cX11_hanging 46 = .ok (.aload_n 0, 1) := by decide +kernel
theorem dX11_hanging_47 : decode cX11_hanging 47 = .ok (.getfield 70, 3) := by decide +kernel
theorem dX11_hanging_50 : decode cX11_hanging 50 = .ok (.ifCond .le 7, 3) := by decide +kernel
theorem dX11_hanging_53 : decode cX11_hanging 53 = .ok (.iconst 0, 1) := by decide +kernel
theorem dX11_hanging_54 : decode cX11_hanging 54 = .ok (.goto 27, 3) := by decide +kernel
theorem dX11_hanging_57 : decode cX11_hanging 57 = .ok (.aload_n 0, 1) := by decide +kernel
theorem dX11_hanging_58 : decode cX11_hanging 58 = .ok (.iload 4, 2) := by decide +kernel
theorem dX11_hanging_60 : decode cX11_hanging 60 = .ok (.aload_n 0, 1) := by decide +kernel
theorem dX11_hanging_61 : decode cX11_hanging 61 = .ok (.getfield 9, 3) := by decide +kernel
theorem dX11_hanging_64 : decode cX11_hanging 64 = .ok (.bipush 45, 2) := by decide +kernel
theorem dX11_hanging_66 : decode cX11_hanging 66 = .ok (.iload_n 1, 1) := by decide +kernel
theorem dX11_hanging_67 : decode cX11_hanging 67 = .ok (.iadd, 1) := by decide +kernel
theorem dX11_hanging_68 : decode cX11_hanging 68 = .ok (.iaload, 1) := by decide +kernel
theorem dX11_hanging_69 : decode cX11_hanging 69 = .ok (.iload_n 2, 1) := by decide +kernel
theorem dX11_hanging_7 : decode cX11_hanging 7 = .ok (.ifCond .eq 14, 3) := by decide +kernel
theorem dX11_hanging_70 : decode cX11_hanging 70 = .ok (.iload_n 3, 1) := by decide +kernel
theorem dX11_hanging_71 : decode cX11_hanging 71 = .ok (.aload_n 0, 1) := by decide +kernel
theorem dX11_hanging_72 : decode cX11_hanging 72 = .ok (.getfield 9, 3) := by decide +kernel
theorem dX11_hanging_75 : decode cX11_hanging 75 = .ok (.bipush 40, 2) := by decide +kernel
theorem dX11_hanging_77 : decode cX11_hanging 77 = .ok (.iaload, 1) := by decide +kernel
theorem dX11_hanging_78 : decode cX11_hanging 78 = .ok (.invokevirtual 359, 3) := by decide +kernel
theorem dX11_hanging_81 : decode cX11_hanging 81 = .ok (.ireturn, 1) := by decide +kernel
theorem dX11_hangsFor_0 : decode cX11_hangsFor 0 = .ok (.aload_n 0, 1) := by decide +kernel
theorem dX11_hangsFor_1 : decode cX11_hangsFor 1 = .ok (.getfield 9, 3) := by decide +kernel
theorem dX11_hangsFor_10 : decode cX11_hangsFor 10 = .ok (.ireturn, 1) := by decide +kernel
theorem dX11_hangsFor_11 : decode cX11_hangsFor 11 = .ok (.aload_n 0, 1) := by decide +kernel
theorem dX11_hangsFor_12 : decode cX11_hangsFor 12 = .ok (.getfield 33, 3) := by decide +kernel
theorem dX11_hangsFor_15 : decode cX11_hangsFor 15 = .ok (.iconst 0, 1) := by decide +kernel
theorem dX11_hangsFor_16 : decode cX11_hangsFor 16 = .ok (.iload_n 1, 1) := by decide +kernel
theorem dX11_hangsFor_17 : decode cX11_hangsFor 17 = .ok (.iastore, 1) := by decide +kernel
theorem dX11_hangsFor_18 : decode cX11_hangsFor 18 = .ok (.aload_n 0, 1) := by decide +kernel
theorem dX11_hangsFor_19 : decode cX11_hangsFor 19 = .ok (.getfield 33, 3) := by decide +kernel
theorem dX11_hangsFor_22 : decode cX11_hangsFor 22 = .ok (.iconst 1, 1) := by decide +kernel
theorem dX11_hangsFor_23 : decode cX11_hangsFor 23 = .ok (.iload_n 2, 1) := by decide +kernel
theorem dX11_hangsFor_24 : decode cX11_hangsFor 24 = .ok (.iastore, 1) := by decide +kernel
theorem dX11_hangsFor_25 : decode cX11_hangsFor 25 = .ok (.aload_n 0, 1) := by decide +kernel
theorem dX11_hangsFor_26 : decode cX11_hangsFor 26 = .ok (.getfield 33, 3) := by decide +kernel
theorem dX11_hangsFor_29 : decode cX11_hangsFor 29 = .ok (.iconst 2, 1) := by decide +kernel
theorem dX11_hangsFor_30 : decode cX11_hangsFor 30 = .ok (.iload_n 3, 1) := by decide +kernel
theorem dX11_hangsFor_31 : decode cX11_hangsFor 31 = .ok (.iastore, 1) := by decide +kernel
theorem dX11_hangsFor_32 : decode cX11_hangsFor 32 = .ok (.aload_n 0, 1) := by decide +kernel
theorem dX11_hangsFor_33 : decode cX11_hangsFor 33 = .ok (.getfield 33, 3) := by decide +kernel
theorem dX11_hangsFor_36 : decode cX11_hangsFor 36 = .ok (.iconst 3, 1) := by decide +kernel
theorem dX11_hangsFor_37 : decode cX11_hangsFor 37 = .ok (.iload 4, 2) := by decide +kernel
theorem dX11_hangsFor_39 : decode cX11_hangsFor 39 = .ok (.iastore, 1) := by decide +kernel
theorem dX11_hangsFor_4 : decode cX11_hangsFor 4 = .ok (.iconst 5, 1) := by decide +kernel
theorem dX11_hangsFor_40 : decode cX11_hangsFor 40 = .ok (.aload_n 0, 1) := by decide +kernel
theorem dX11_hangsFor_41 : decode cX11_hangsFor 41 = .ok (.getfield 33, 3) := by decide +kernel
theorem dX11_hangsFor_44 : decode cX11_hangsFor 44 = .ok (.iconst 4, 1) := by decide +kernel
theorem dX11_hangsFor_45 : decode cX11_hangsFor 45 = .ok (.iload 5, 2) := by decide +kernel
theorem dX11_hangsFor_47 : decode cX11_hangsFor 47 = .ok (.bipush 24, 2) := by decide +kernel
theorem dX11_hangsFor_49 : decode cX11_hangsFor 49 = .ok (.irem, 1) := by decide +kernel
theorem dX11_hangsFor_5 : decode cX11_hangsFor 5 = .ok (.iaload, 1) := by decide +kernel
theorem dX11_hangsFor_50 : decode cX11_hangsFor 50 = .ok (.iastore, 1) := by decide +kernel
theorem dX11_hangsFor_51 : decode cX11_hangsFor 51 = .ok (.aload_n 0, 1) := by decide +kernel
theorem dX11_hangsFor_52 : decode cX11_hangsFor 52 = .ok (.getfield 33, 3) := by decide +kernel
theorem dX11_hangsFor_55 : decode cX11_hangsFor 55 = .ok (.iconst 5, 1) := by decide +kernel
theorem dX11_hangsFor_56 : decode cX11_hangsFor 56 = .ok (.aload_n 0, 1) := by decide +kernel
theorem dX11_hangsFor_57 : decode cX11_hangsFor 57 = .ok (.iload_n 3, 1) := by decide +kernel
theorem dX11_hangsFor_58 : decode cX11_hangsFor 58 = .ok (.invokevirtual 311, 3) := by decide +kernel
theorem dX11_hangsFor_6 : decode cX11_hangsFor 6 = .ok (.ifCond .ne 5, 3) := by decide +kernel
theorem dX11_hangsFor_61 : decode cX11_hangsFor 61 = .ok (.iastore, 1) := by decide +kernel
theorem dX11_hangsFor_62 : decode cX11_hangsFor 62 = .ok (.iconst 0, 1) := by decide +kernel
theorem dX11_hangsFor_63 : decode cX11_hangsFor 63 = .ok (.sipush 999, 3) := by decide +kernel
theorem dX11_hangsFor_66 : decode cX11_hangsFor 66 = .ok (.aload_n 0, 1) := by decide +kernel
theorem dX11_hangsFor_67 : decode cX11_hangsFor 67 = .ok (.iconst 5, 1) := by decide +kernel
theorem dX11_hangsFor_68 : decode cX11_hangsFor 68 = .ok (.sipush 459, 3) := by decide +kernel
theorem dX11_hangsFor_71 : decode cX11_hangsFor 71 = .ok (.invokevirtual 313, 3) := by decide +kernel
theorem dX11_hangsFor_74 : decode cX11_hangsFor 74 = .ok (.invokestatic 316, 3) := by decide +kernel
theorem dX11_hangsFor_77 : decode cX11_hangsFor 77 = .ok (.invokestatic 318, 3) := by decide +kernel
theorem dX11_hangsFor_80 : decode cX11_hangsFor 80 = .ok (.ireturn, 1) := by decide +kernel
theorem dX11_hangsFor_9 : decode cX11_hangsFor 9 = .ok (.iload_n 1, 1) := by decide +kernel
theorem dX11_isGoneOut_0 : decode cX11_isGoneOut 0 = .ok (.aload_n 0, 1) := by decide +kernel
theorem dX11_isGoneOut_1 : decode cX11_isGoneOut 1 = .ok (.aload_n 0, 1) := by decide +kernel
theorem dX11_isGoneOut_12 : decode cX11_isGoneOut 12 = .ok (.iconst 1, 1) := by decide +kernel
theorem dX11_isGoneOut_13 : decode cX11_isGoneOut 13 = .ok (.goto 20, 3) := by decide +kernel
theorem dX11_isGoneOut_16 : decode cX11_isGoneOut 16 = .ok (.iload_n 3, 1) := by decide +kernel
theorem dX11_isGoneOut_17 : decode cX11_isGoneOut 17 = .ok (.i2l, 1) := by decide +kernel
theorem dX11_isGoneOut_18 : decode cX11_isGoneOut 18 = .ok (.lconst 1, 1) := by decide +kernel
theorem dX11_isGoneOut_19 : decode cX11_isGoneOut 19 = .ok (.ldc2_w 399, 3) := by decide +kernel
theorem dX11_isGoneOut_2 : decode cX11_isGoneOut 2 = .ok (.iload_n 1, 1) := by decide +kernel
theorem dX11_isGoneOut_22 : decode cX11_isGoneOut 22 = .ok (.invokestatic 131, 3) := by decide +kernel
theorem dX11_isGoneOut_25 : decode cX11_isGoneOut 25 = .ok (.ifCond .eq 7, 3) := by decide +kernel
theorem dX11_isGoneOut_28 : decode cX11_isGoneOut 28 = .ok (.iconst 0, 1) := by decide +kernel
theorem dX11_isGoneOut_29 : decode cX11_isGoneOut 29 = .ok (.goto 4, 3) := by decide +kernel
theorem dX11_isGoneOut_3 : decode cX11_isGoneOut 3 = .ok (.i2l, 1) := by decide +kernel
theorem dX11_isGoneOut_32 : decode cX11_isGoneOut 32 = .ok (.iconst 2, 1) := by decide +kernel
theorem dX11_isGoneOut_33 : decode cX11_isGoneOut 33 = .ok (.putfield 70, 3) := by decide +kernel
theorem dX11_isGoneOut_36 : decode cX11_isGoneOut 36 = .ok (.aload_n 0, 1) := by decide +kernel
theorem dX11_isGoneOut_37 : decode cX11_isGoneOut 37 = .ok (.getfield 70, 3) := by decide +kernel
theorem dX11_isGoneOut_4 : decode cX11_isGoneOut 4 = .ok (.iload_n 2, 1) := by decide +kernel
theorem dX11_isGoneOut_40 : decode cX11_isGoneOut 40 = .ok (.ifCond .le 7, 3) := by decide +kernel
theorem dX11_isGoneOut_43 : decode cX11_isGoneOut 43 = .ok (.iconst 1, 1) := by decide +kernel
theorem dX11_isGoneOut_44 : decode cX11_isGoneOut 44 = .ok (.goto 4, 3) := by decide +kernel
theorem dX11_isGoneOut_47 : decode cX11_isGoneOut 47 = .ok (.iconst 0, 1) := by decide +kernel
theorem dX11_isGoneOut_48 : decode cX11_isGoneOut 48 = .ok (.ireturn, 1) := by decide +kernel
theorem dX11_isGoneOut_5 : decode cX11_isGoneOut 5 = .ok (.i2l, 1) := by decide +kernel
theorem dX11_isGoneOut_6 : decode cX11_isGoneOut 6 = .ok (.invokevirtual 373, 3) := by decide +kernel
theorem dX11_isGoneOut_9 : decode cX11_isGoneOut 9 = .ok (.ifCond .ne 7, 3) := by decide +kernel
theorem dX11_isJust_0 : decode cX11_isJust 0 = .ok (.aload_n 0, 1) := by decide +kernel
theorem dX11_isJust_1 : decode cX11_isJust 1 = .ok (.iload 5, 2) := by decide +kernel
theorem dX11_isJust_10 : decode cX11_isJust 10 = .ok (.bipush 40, 2) := by decide +kernel
theorem dX11_isJust_12 : decode cX11_isJust 12 = .ok (.iaload, 1) := by decide +kernel
theorem dX11_isJust_13 : decode cX11_isJust 13 = .ok (.iload 4, 2) := by decide +kernel
theorem dX11_isJust_15 : decode cX11_isJust 15 = .ok (.isub, 1) := by decide +kernel
theorem dX11_isJust_16 : decode cX11_isJust 16 = .ok (.invokevirtual 359, 3) := by decide +kernel
theorem dX11_isJust_19 : decode cX11_isJust 19 = .ok (.iload 4, 2) := by decide +kernel
theorem dX11_isJust_21 : decode cX11_isJust 21 = .ok (.if_icmp .ne 7, 3) := by decide +kernel
theorem dX11_isJust_24 : decode cX11_isJust 24 = .ok (.iconst 1, 1) := by decide +kernel
theorem dX11_isJust_25 : decode cX11_isJust 25 = .ok (.goto 4, 3) := by decide +kernel
theorem dX11_isJust_28 : decode cX11_isJust 28 = .ok (.iconst 0, 1) := by decide +kernel
theorem dX11_isJust_29 : decode cX11_isJust 29 = .ok (.ireturn, 1) := by decide +kernel
theorem dX11_isJust_3 : decode cX11_isJust 3 = .ok (.iload_n 3, 1) := by decide +kernel
theorem dX11_isJust_4 : decode cX11_isJust 4 = .ok (.iload_n 1, 1) := by decide +kernel
theorem dX11_isJust_5 : decode cX11_isJust 5 = .ok (.iload_n 2, 1) := by decide +kernel
theorem dX11_isJust_6 : decode cX11_isJust 6 = .ok (.aload_n 0, 1) := by decide +kernel
theorem dX11_isJust_7 : decode cX11_isJust 7 = .ok (.getfield 9, 3) := by decide +kernel
theorem dX11_lawOf_0 : decode cX11_lawOf 0 = .ok (.iconst 0, 1) := by decide +kernel
theorem dX11_lawOf_1 : decode cX11_lawOf 1 = .ok (.istore_n 3, 1) := by decide +kernel
theorem dX11_lawOf_101 : decode cX11_lawOf 101 = .ok (.iinc 3 (-1), 3) := by decide +kernel
theorem dX11_lawOf_104 : decode cX11_lawOf 104 = .ok (.aload_n 0, 1) := by decide +kernel
theorem dX11_lawOf_105 : decode cX11_lawOf 105 = .ok (.getfield 30, 3) := by decide +kernel
theorem dX11_lawOf_108 : decode cX11_lawOf 108 = .ok (.iload_n 3, 1) := by decide +kernel
theorem dX11_lawOf_109 : decode cX11_lawOf 109 = .ok (.iconst 1, 1) := by decide +kernel
theorem dX11_lawOf_11 : decode cX11_lawOf 11 = .ok (.iload_n 1, 1) := by decide +kernel
theorem dX11_lawOf_110 : decode cX11_lawOf 110 = .ok (.isub, 1) := by decide +kernel
theorem dX11_lawOf_111 : decode cX11_lawOf 111 = .ok (.iload 5, 2) := by decide +kernel
theorem dX11_lawOf_113 : decode cX11_lawOf 113 = .ok (.aload_n 0, 1) := by decide +kernel
theorem dX11_lawOf_114 : decode cX11_lawOf 114 = .ok (.getfield 30, 3) := by decide +kernel
theorem dX11_lawOf_117 : decode cX11_lawOf 117 = .ok (.iload_n 3, 1) := by decide +kernel
theorem dX11_lawOf_118 : decode cX11_lawOf 118 = .ok (.iconst 1, 1) := by decide +kernel
theorem dX11_lawOf_119 : decode cX11_lawOf 119 = .ok (.isub, 1) := by decide +kernel
theorem dX11_lawOf_12 : decode cX11_lawOf 12 = .ok (.iaload, 1) := by decide +kernel
theorem dX11_lawOf_120 : decode cX11_lawOf 120 = .ok (.iaload, 1) := by decide +kernel
theorem dX11_lawOf_121 : decode cX11_lawOf 121 = .ok (.i2l, 1) := by decide +kernel
theorem dX11_lawOf_122 : decode cX11_lawOf 122 = .ok (.aload_n 0, 1) := by decide +kernel
theorem dX11_lawOf_123 : decode cX11_lawOf 123 = .ok (.getfield 30, 3) := by decide +kernel
theorem dX11_lawOf_126 : decode cX11_lawOf 126 = .ok (.iload_n 3, 1) := by decide +kernel
theorem dX11_lawOf_127 : decode cX11_lawOf 127 = .ok (.iaload, 1) := by decide +kernel
theorem dX11_lawOf_128 : decode cX11_lawOf 128 = .ok (.i2l, 1) := by decide +kernel
theorem dX11_lawOf_129 : decode cX11_lawOf 129 = .ok (.invokestatic 307, 3) := by decide +kernel
theorem dX11_lawOf_13 : decode cX11_lawOf 13 = .ok (.if_icmp .ge 126, 3) := by decide +kernel
theorem dX11_lawOf_132 : decode cX11_lawOf 132 = .ok (.iastore, 1) := by decide +kernel
theorem dX11_lawOf_133 : decode cX11_lawOf 133 = .ok (.iinc 4 1, 3) := by decide +kernel
theorem dX11_lawOf_136 : decode cX11_lawOf 136 = .ok (.goto (-131), 3) := by decide +kernel
theorem dX11_lawOf_139 : decode cX11_lawOf 139 = .ok (.aload_n 0, 1) := by decide +kernel
theorem dX11_lawOf_140 : decode cX11_lawOf 140 = .ok (.getfield 30, 3) := by decide +kernel
theorem dX11_lawOf_143 : decode cX11_lawOf 143 = .ok (.iconst 0, 1) := by decide +kernel
theorem dX11_lawOf_144 : decode cX11_lawOf 144 = .ok (.iaload, 1) := by decide +kernel
theorem dX11_lawOf_145 : decode cX11_lawOf 145 = .ok (.ireturn, 1) := by decide +kernel
theorem dX11_lawOf_16 : decode cX11_lawOf 16 = .ok (.aload_n 0, 1) := by decide +kernel
theorem dX11_lawOf_17 : decode cX11_lawOf 17 = .ok (.getfield 9, 3) := by decide +kernel
theorem dX11_lawOf_2 : decode cX11_lawOf 2 = .ok (.iconst 0, 1) := by decide +kernel
theorem dX11_lawOf_20 : decode cX11_lawOf 20 = .ok (.iload_n 2, 1) := by decide +kernel
theorem dX11_lawOf_21 : decode cX11_lawOf 21 = .ok (.iload 4, 2) := by decide +kernel
theorem dX11_lawOf_23 : decode cX11_lawOf 23 = .ok (.iadd, 1) := by decide +kernel
theorem dX11_lawOf_24 : decode cX11_lawOf 24 = .ok (.iaload, 1) := by decide +kernel
theorem dX11_lawOf_25 : decode cX11_lawOf 25 = .ok (.istore 5, 2) := by decide +kernel
theorem dX11_lawOf_27 : decode cX11_lawOf 27 = .ok (.iload 5, 2) := by decide +kernel
theorem dX11_lawOf_29 : decode cX11_lawOf 29 = .ok (.bipush 100, 2) := by decide +kernel
theorem dX11_lawOf_3 : decode cX11_lawOf 3 = .ok (.istore 4, 2) := by decide +kernel
theorem dX11_lawOf_31 : decode cX11_lawOf 31 = .ok (.if_icmp .lt 42, 3) := by decide +kernel
theorem dX11_lawOf_34 : decode cX11_lawOf 34 = .ok (.aload_n 0, 1) := by decide +kernel
theorem dX11_lawOf_35 : decode cX11_lawOf 35 = .ok (.getfield 30, 3) := by decide +kernel
theorem dX11_lawOf_38 : decode cX11_lawOf 38 = .ok (.iload_n 3, 1) := by decide +kernel
theorem dX11_lawOf_39 : decode cX11_lawOf 39 = .ok (.iload 5, 2) := by decide +kernel
theorem dX11_lawOf_41 : decode cX11_lawOf 41 = .ok (.sipush 1000, 3) := by decide +kernel
theorem dX11_lawOf_44 : decode cX11_lawOf 44 = .ok (.if_icmp .lt 12, 3) := by decide +kernel
theorem dX11_lawOf_47 : decode cX11_lawOf 47 = .ok (.iload 5, 2) := by decide +kernel
theorem dX11_lawOf_49 : decode cX11_lawOf 49 = .ok (.sipush 1000, 3) := by decide +kernel
theorem dX11_lawOf_5 : decode cX11_lawOf 5 = .ok (.iload 4, 2) := by decide +kernel
theorem dX11_lawOf_52 : decode cX11_lawOf 52 = .ok (.isub, 1) := by decide +kernel
theorem dX11_lawOf_53 : decode cX11_lawOf 53 = .ok (.goto 13, 3) := by decide +kernel
theorem dX11_lawOf_56 : decode cX11_lawOf 56 = .ok (.aload_n 0, 1) := by decide +kernel
theorem dX11_lawOf_57 : decode cX11_lawOf 57 = .ok (.getfield 33, 3) := by decide +kernel
theorem dX11_lawOf_60 : decode cX11_lawOf 60 = .ok (.iload 5, 2) := by decide +kernel
theorem dX11_lawOf_62 : decode cX11_lawOf 62 = .ok (.bipush 100, 2) := by decide +kernel
theorem dX11_lawOf_64 : decode cX11_lawOf 64 = .ok (.isub, 1) := by decide +kernel
theorem dX11_lawOf_65 : decode cX11_lawOf 65 = .ok (.iaload, 1) := by decide +kernel
theorem dX11_lawOf_66 : decode cX11_lawOf 66 = .ok (.iastore, 1) := by decide +kernel
theorem dX11_lawOf_67 : decode cX11_lawOf 67 = .ok (.iinc 3 1, 3) := by decide +kernel
theorem dX11_lawOf_7 : decode cX11_lawOf 7 = .ok (.aload_n 0, 1) := by decide +kernel
theorem dX11_lawOf_70 : decode cX11_lawOf 70 = .ok (.goto 63, 3) := by decide +kernel
theorem dX11_lawOf_73 : decode cX11_lawOf 73 = .ok (.iload 5, 2) := by decide +kernel
theorem dX11_lawOf_75 : decode cX11_lawOf 75 = .ok (.bipush 18, 2) := by decide +kernel
theorem dX11_lawOf_77 : decode cX11_lawOf 77 = .ok (.if_icmp .ne 24, 3) := by decide +kernel
theorem dX11_lawOf_8 : decode cX11_lawOf 8 = .ok (.getfield 9, 3) := by decide +kernel
theorem dX11_lawOf_80 : decode cX11_lawOf 80 = .ok (.aload_n 0, 1) := by decide +kernel
theorem dX11_lawOf_81 : decode cX11_lawOf 81 = .ok (.getfield 30, 3) := by decide +kernel
theorem dX11_lawOf_84 : decode cX11_lawOf 84 = .ok (.iload_n 3, 1) := by decide +kernel
theorem dX11_lawOf_85 : decode cX11_lawOf 85 = .ok (.iconst 1, 1) := by decide +kernel
theorem dX11_lawOf_86 : decode cX11_lawOf 86 = .ok (.isub, 1) := by decide +kernel
theorem dX11_lawOf_87 : decode cX11_lawOf 87 = .ok (.iconst 1, 1) := by decide +kernel
theorem dX11_lawOf_88 : decode cX11_lawOf 88 = .ok (.aload_n 0, 1) := by decide +kernel
theorem dX11_lawOf_89 : decode cX11_lawOf 89 = .ok (.getfield 30, 3) := by decide +kernel
theorem dX11_lawOf_92 : decode cX11_lawOf 92 = .ok (.iload_n 3, 1) := by decide +kernel
theorem dX11_lawOf_93 : decode cX11_lawOf 93 = .ok (.iconst 1, 1) := by decide +kernel
theorem dX11_lawOf_94 : decode cX11_lawOf 94 = .ok (.isub, 1) := by decide +kernel
theorem dX11_lawOf_95 : decode cX11_lawOf 95 = .ok (.iaload, 1) := by decide +kernel
theorem dX11_lawOf_96 : decode cX11_lawOf 96 = .ok (.isub, 1) := by decide +kernel
theorem dX11_lawOf_97 : decode cX11_lawOf 97 = .ok (.iastore, 1) := by decide +kernel
theorem dX11_lawOf_98 : decode cX11_lawOf 98 = .ok (.goto 35, 3) := by decide +kernel
theorem dX11_laysLet_0 : decode cX11_laysLet 0 = .ok (.iconst 0, 1) := by decide +kernel
theorem dX11_laysLet_1 : decode cX11_laysLet 1 = .ok (.istore 5, 2) := by decide +kernel
theorem dX11_laysLet_11 : decode cX11_laysLet 11 = .ok (.iload 6, 2) := by decide +kernel
theorem dX11_laysLet_13 : decode cX11_laysLet 13 = .ok (.bipush 60, 2) := by decide +kernel
theorem dX11_laysLet_15 : decode cX11_laysLet 15 = .ok (.aload_n 0, 1) := by decide +kernel
theorem dX11_laysLet_16 : decode cX11_laysLet 16 = .ok (.getfield 9, 3) := by decide +kernel
theorem dX11_laysLet_19 : decode cX11_laysLet 19 = .ok (.bipush 40, 2) := by decide +kernel
theorem dX11_laysLet_21 : decode cX11_laysLet 21 = .ok (.iaload, 1) := by decide +kernel
theorem dX11_laysLet_22 : decode cX11_laysLet 22 = .ok (.invokestatic 316, 3) := by decide +kernel
theorem dX11_laysLet_25 : decode cX11_laysLet 25 = .ok (.if_icmp .gt 64, 3) := by decide +kernel
theorem dX11_laysLet_28 : decode cX11_laysLet 28 = .ok (.iconst 0, 1) := by decide +kernel
theorem dX11_laysLet_29 : decode cX11_laysLet 29 = .ok (.istore 7, 2) := by decide +kernel
theorem dX11_laysLet_3 : decode cX11_laysLet 3 = .ok (.aload_n 0, 1) := by decide +kernel
theorem dX11_laysLet_31 : decode cX11_laysLet 31 = .ok (.iload 7, 2) := by decide +kernel
theorem dX11_laysLet_33 : decode cX11_laysLet 33 = .ok (.bipush 60, 2) := by decide +kernel
theorem dX11_laysLet_35 : decode cX11_laysLet 35 = .ok (.if_icmp .gt 48, 3) := by decide +kernel
theorem dX11_laysLet_38 : decode cX11_laysLet 38 = .ok (.aload_n 0, 1) := by decide +kernel
theorem dX11_laysLet_39 : decode cX11_laysLet 39 = .ok (.iload_n 1, 1) := by decide +kernel
theorem dX11_laysLet_4 : decode cX11_laysLet 4 = .ok (.iconst (-1), 1) := by decide +kernel
theorem dX11_laysLet_40 : decode cX11_laysLet 40 = .ok (.iload_n 2, 1) := by decide +kernel
theorem dX11_laysLet_41 : decode cX11_laysLet 41 = .ok (.iload_n 3, 1) := by decide +kernel
theorem dX11_laysLet_42 : decode cX11_laysLet 42 = .ok (.iload 6, 2) := by decide +kernel
theorem dX11_laysLet_44 : decode cX11_laysLet 44 = .ok (.iload 7, 2) := by decide +kernel
theorem dX11_laysLet_46 : decode cX11_laysLet 46 = .ok (.invokevirtual 517, 3) := by decide +kernel
theorem dX11_laysLet_49 : decode cX11_laysLet 49 = .ok (.ifCond .ne 6, 3) := by decide +kernel
theorem dX11_laysLet_5 : decode cX11_laysLet 5 = .ok (.putfield 514, 3) := by decide +kernel
theorem dX11_laysLet_52 : decode cX11_laysLet 52 = .ok (.goto 25, 3) := by decide +kernel
theorem dX11_laysLet_55 : decode cX11_laysLet 55 = .ok (.iload 5, 2) := by decide +kernel
theorem dX11_laysLet_57 : decode cX11_laysLet 57 = .ok (.iload 4, 2) := by decide +kernel
theorem dX11_laysLet_59 : decode cX11_laysLet 59 = .ok (.if_icmp .ne 15, 3) := by decide +kernel
theorem dX11_laysLet_62 : decode cX11_laysLet 62 = .ok (.aload_n 0, 1) := by decide +kernel
theorem dX11_laysLet_63 : decode cX11_laysLet 63 = .ok (.bipush 100, 2) := by decide +kernel
theorem dX11_laysLet_65 : decode cX11_laysLet 65 = .ok (.iload 6, 2) := by decide +kernel
theorem dX11_laysLet_67 : decode cX11_laysLet 67 = .ok (.imul, 1) := by decide +kernel
theorem dX11_laysLet_68 : decode cX11_laysLet 68 = .ok (.iload 7, 2) := by decide +kernel
theorem dX11_laysLet_70 : decode cX11_laysLet 70 = .ok (.iadd, 1) := by decide +kernel
theorem dX11_laysLet_71 : decode cX11_laysLet 71 = .ok (.putfield 514, 3) := by decide +kernel
theorem dX11_laysLet_74 : decode cX11_laysLet 74 = .ok (.iinc 5 1, 3) := by decide +kernel
theorem dX11_laysLet_77 : decode cX11_laysLet 77 = .ok (.iinc 7 1, 3) := by decide +kernel
theorem dX11_laysLet_8 : decode cX11_laysLet 8 = .ok (.iconst 0, 1) := by decide +kernel
theorem dX11_laysLet_80 : decode cX11_laysLet 80 = .ok (.goto (-49), 3) := by decide +kernel
theorem dX11_laysLet_83 : decode cX11_laysLet 83 = .ok (.iinc 6 1, 3) := by decide +kernel
theorem dX11_laysLet_86 : decode cX11_laysLet 86 = .ok (.goto (-75), 3) := by decide +kernel
theorem dX11_laysLet_89 : decode cX11_laysLet 89 = .ok (.iload 5, 2) := by decide +kernel
theorem dX11_laysLet_9 : decode cX11_laysLet 9 = .ok (.istore 6, 2) := by decide +kernel
theorem dX11_laysLet_91 : decode cX11_laysLet 91 = .ok (.ireturn, 1) := by decide +kernel
theorem dX11_letGoAt_0 : decode cX11_letGoAt 0 = .ok (.aload_n 0, 1) := by decide +kernel
theorem dX11_letGoAt_1 : decode cX11_letGoAt 1 = .ok (.iload_n 1, 1) := by decide +kernel
theorem dX11_letGoAt_10 : decode cX11_letGoAt 10 = .ok (.iload 4, 2) := by decide +kernel
theorem dX11_letGoAt_12 : decode cX11_letGoAt 12 = .ok (.ifCond .ge 8, 3) := by decide +kernel
theorem dX11_letGoAt_15 : decode cX11_letGoAt 15 = .ok (.aload_n 0, 1) := by decide +kernel
theorem dX11_letGoAt_16 : decode cX11_letGoAt 16 = .ok (.iconst 2, 1) := by decide +kernel
theorem dX11_letGoAt_17 : decode cX11_letGoAt 17 = .ok (.putfield 70, 3) := by decide +kernel
theorem dX11_letGoAt_2 : decode cX11_letGoAt 2 = .ok (.iload_n 2, 1) := by decide +kernel
theorem dX11_letGoAt_20 : decode cX11_letGoAt 20 = .ok (.aload_n 0, 1) := by decide +kernel
theorem dX11_letGoAt_21 : decode cX11_letGoAt 21 = .ok (.getfield 70, 3) := by decide +kernel
theorem dX11_letGoAt_24 : decode cX11_letGoAt 24 = .ok (.ifCond .le 5, 3) := by decide +kernel
theorem dX11_letGoAt_27 : decode cX11_letGoAt 27 = .ok (.iconst 0, 1) := by decide +kernel
theorem dX11_letGoAt_28 : decode cX11_letGoAt 28 = .ok (.ireturn, 1) := by decide +kernel
theorem dX11_letGoAt_29 : decode cX11_letGoAt 29 = .ok (.aload_n 0, 1) := by decide +kernel
theorem dX11_letGoAt_3 : decode cX11_letGoAt 3 = .ok (.iload_n 3, 1) := by decide +kernel
theorem dX11_letGoAt_30 : decode cX11_letGoAt 30 = .ok (.iload_n 1, 1) := by decide +kernel
theorem dX11_letGoAt_31 : decode cX11_letGoAt 31 = .ok (.iload_n 2, 1) := by decide +kernel
theorem dX11_letGoAt_32 : decode cX11_letGoAt 32 = .ok (.iload_n 3, 1) := by decide +kernel
theorem dX11_letGoAt_33 : decode cX11_letGoAt 33 = .ok (.iload 4, 2) := by decide +kernel
theorem dX11_letGoAt_35 : decode cX11_letGoAt 35 = .ok (.invokevirtual 524, 3) := by decide +kernel
theorem dX11_letGoAt_38 : decode cX11_letGoAt 38 = .ok (.pop, 1) := by decide +kernel
theorem dX11_letGoAt_39 : decode cX11_letGoAt 39 = .ok (.aload_n 0, 1) := by decide +kernel
theorem dX11_letGoAt_4 : decode cX11_letGoAt 4 = .ok (.invokevirtual 521, 3) := by decide +kernel
theorem dX11_letGoAt_40 : decode cX11_letGoAt 40 = .ok (.getfield 514, 3) := by decide +kernel
theorem dX11_letGoAt_43 : decode cX11_letGoAt 43 = .ok (.ireturn, 1) := by decide +kernel
theorem dX11_letGoAt_7 : decode cX11_letGoAt 7 = .ok (.ifCond .ne 13, 3) := by decide +kernel
theorem dX11_letGoBy_0 : decode cX11_letGoBy 0 = .ok (.aload_n 0, 1) := by decide +kernel
theorem dX11_letGoBy_1 : decode cX11_letGoBy 1 = .ok (.iload_n 1, 1) := by decide +kernel
theorem dX11_letGoBy_10 : decode cX11_letGoBy 10 = .ok (.iconst 0, 1) := by decide +kernel
theorem dX11_letGoBy_11 : decode cX11_letGoBy 11 = .ok (.goto 11, 3) := by decide +kernel
theorem dX11_letGoBy_14 : decode cX11_letGoBy 14 = .ok (.aload_n 0, 1) := by decide +kernel
theorem dX11_letGoBy_15 : decode cX11_letGoBy 15 = .ok (.iload_n 1, 1) := by decide +kernel
theorem dX11_letGoBy_16 : decode cX11_letGoBy 16 = .ok (.iload_n 2, 1) := by decide +kernel
theorem dX11_letGoBy_17 : decode cX11_letGoBy 17 = .ok (.iload_n 3, 1) := by decide +kernel
theorem dX11_letGoBy_18 : decode cX11_letGoBy 18 = .ok (.iconst (-1), 1) := by decide +kernel
theorem dX11_letGoBy_19 : decode cX11_letGoBy 19 = .ok (.invokevirtual 524, 3) := by decide +kernel
theorem dX11_letGoBy_2 : decode cX11_letGoBy 2 = .ok (.iload_n 2, 1) := by decide +kernel
theorem dX11_letGoBy_22 : decode cX11_letGoBy 22 = .ok (.ireturn, 1) := by decide +kernel
theorem dX11_letGoBy_3 : decode cX11_letGoBy 3 = .ok (.iload_n 3, 1) := by decide +kernel
theorem dX11_letGoBy_4 : decode cX11_letGoBy 4 = .ok (.invokevirtual 521, 3) := by decide +kernel
theorem dX11_letGoBy_7 : decode cX11_letGoBy 7 = .ok (.ifCond .eq 7, 3) := by decide +kernel
theorem dX11_levels_0 : decode cX11_levels 0 = .ok (.aload_n 0, 1) := by decide +kernel
theorem dX11_levels_1 : decode cX11_levels 1 = .ok (.aload_n 0, 1) := by decide +kernel
theorem dX11_levels_10 : decode cX11_levels 10 = .ok (.iconst 1, 1) := by decide +kernel
theorem dX11_levels_101 : decode cX11_levels 101 = .ok (.iload_n 2, 1) := by decide +kernel
theorem dX11_levels_102 : decode cX11_levels 102 = .ok (.iload_n 3, 1) := by decide +kernel
theorem dX11_levels_103 : decode cX11_levels 103 = .ok (.iload 4, 2) := by decide +kernel
theorem dX11_levels_105 : decode cX11_levels 105 = .ok (.invokevirtual 517, 3) := by decide +kernel
theorem dX11_levels_108 : decode cX11_levels 108 = .ok (.ifCond .eq 10, 3) := by decide +kernel
theorem dX11_levels_11 : decode cX11_levels 11 = .ok (.goto 55, 3) := by decide +kernel
theorem dX11_levels_111 : decode cX11_levels 111 = .ok (.iconst 1, 1) := by decide +kernel
theorem dX11_levels_112 : decode cX11_levels 112 = .ok (.iload 6, 2) := by decide +kernel
theorem dX11_levels_114 : decode cX11_levels 114 = .ok (.ishl, 1) := by decide +kernel
theorem dX11_levels_115 : decode cX11_levels 115 = .ok (.goto 4, 3) := by decide +kernel
theorem dX11_levels_118 : decode cX11_levels 118 = .ok (.iconst 0, 1) := by decide +kernel
theorem dX11_levels_119 : decode cX11_levels 119 = .ok (.ior, 1) := by decide +kernel
theorem dX11_levels_120 : decode cX11_levels 120 = .ok (.istore 5, 2) := by decide +kernel
theorem dX11_levels_122 : decode cX11_levels 122 = .ok (.iinc 6 1, 3) := by decide +kernel
theorem dX11_levels_125 : decode cX11_levels 125 = .ok (.goto (-41), 3) := by decide +kernel
theorem dX11_levels_128 : decode cX11_levels 128 = .ok (.iload 5, 2) := by decide +kernel
theorem dX11_levels_130 : decode cX11_levels 130 = .ok (.ireturn, 1) := by decide +kernel
theorem dX11_levels_14 : decode cX11_levels 14 = .ok (.iload_n 2, 1) := by decide +kernel
theorem dX11_levels_15 : decode cX11_levels 15 = .ok (.i2l, 1) := by decide +kernel
theorem dX11_levels_16 : decode cX11_levels 16 = .ok (.lconst 1, 1) := by decide +kernel
theorem dX11_levels_17 : decode cX11_levels 17 = .ok (.ldc2_w 399, 3) := by decide +kernel
theorem dX11_levels_2 : decode cX11_levels 2 = .ok (.iload_n 1, 1) := by decide +kernel
theorem dX11_levels_20 : decode cX11_levels 20 = .ok (.invokestatic 131, 3) := by decide +kernel
theorem dX11_levels_23 : decode cX11_levels 23 = .ok (.ifCond .eq 42, 3) := by decide +kernel
theorem dX11_levels_26 : decode cX11_levels 26 = .ok (.iload_n 3, 1) := by decide +kernel
theorem dX11_levels_27 : decode cX11_levels 27 = .ok (.i2l, 1) := by decide +kernel
theorem dX11_levels_28 : decode cX11_levels 28 = .ok (.lconst 0, 1) := by decide +kernel
theorem dX11_levels_29 : decode cX11_levels 29 = .ok (.bipush 60, 2) := by decide +kernel
theorem dX11_levels_3 : decode cX11_levels 3 = .ok (.i2l, 1) := by decide +kernel
theorem dX11_levels_31 : decode cX11_levels 31 = .ok (.aload_n 0, 1) := by decide +kernel
theorem dX11_levels_32 : decode cX11_levels 32 = .ok (.getfield 9, 3) := by decide +kernel
theorem dX11_levels_35 : decode cX11_levels 35 = .ok (.bipush 40, 2) := by decide +kernel
theorem dX11_levels_37 : decode cX11_levels 37 = .ok (.iaload, 1) := by decide +kernel
theorem dX11_levels_38 : decode cX11_levels 38 = .ok (.invokestatic 316, 3) := by decide +kernel
theorem dX11_levels_4 : decode cX11_levels 4 = .ok (.invokevirtual 286, 3) := by decide +kernel
theorem dX11_levels_41 : decode cX11_levels 41 = .ok (.i2l, 1) := by decide +kernel
theorem dX11_levels_42 : decode cX11_levels 42 = .ok (.invokestatic 131, 3) := by decide +kernel
theorem dX11_levels_45 : decode cX11_levels 45 = .ok (.ifCond .eq 20, 3) := by decide +kernel
theorem dX11_levels_48 : decode cX11_levels 48 = .ok (.iload 4, 2) := by decide +kernel
theorem dX11_levels_50 : decode cX11_levels 50 = .ok (.i2l, 1) := by decide +kernel
theorem dX11_levels_51 : decode cX11_levels 51 = .ok (.lconst 0, 1) := by decide +kernel
theorem dX11_levels_52 : decode cX11_levels 52 = .ok (.ldc2_w 477, 3) := by decide +kernel
theorem dX11_levels_55 : decode cX11_levels 55 = .ok (.invokestatic 131, 3) := by decide +kernel
theorem dX11_levels_58 : decode cX11_levels 58 = .ok (.ifCond .eq 7, 3) := by decide +kernel
theorem dX11_levels_61 : decode cX11_levels 61 = .ok (.iconst 0, 1) := by decide +kernel
theorem dX11_levels_62 : decode cX11_levels 62 = .ok (.goto 4, 3) := by decide +kernel
theorem dX11_levels_65 : decode cX11_levels 65 = .ok (.iconst 2, 1) := by decide +kernel
theorem dX11_levels_66 : decode cX11_levels 66 = .ok (.putfield 70, 3) := by decide +kernel
theorem dX11_levels_69 : decode cX11_levels 69 = .ok (.aload_n 0, 1) := by decide +kernel
theorem dX11_levels_7 : decode cX11_levels 7 = .ok (.ifCond .ne 7, 3) := by decide +kernel
theorem dX11_levels_70 : decode cX11_levels 70 = .ok (.getfield 70, 3) := by decide +kernel
theorem dX11_levels_73 : decode cX11_levels 73 = .ok (.ifCond .le 5, 3) := by decide +kernel
theorem dX11_levels_76 : decode cX11_levels 76 = .ok (.iconst 0, 1) := by decide +kernel
theorem dX11_levels_77 : decode cX11_levels 77 = .ok (.ireturn, 1) := by decide +kernel
theorem dX11_levels_78 : decode cX11_levels 78 = .ok (.iconst 0, 1) := by decide +kernel
theorem dX11_levels_79 : decode cX11_levels 79 = .ok (.istore 5, 2) := by decide +kernel
theorem dX11_levels_81 : decode cX11_levels 81 = .ok (.iconst 0, 1) := by decide +kernel
theorem dX11_levels_82 : decode cX11_levels 82 = .ok (.istore 6, 2) := by decide +kernel
theorem dX11_levels_84 : decode cX11_levels 84 = .ok (.iload 6, 2) := by decide +kernel
theorem dX11_levels_86 : decode cX11_levels 86 = .ok (.aload_n 0, 1) := by decide +kernel
theorem dX11_levels_87 : decode cX11_levels 87 = .ok (.getfield 9, 3) := by decide +kernel
theorem dX11_levels_90 : decode cX11_levels 90 = .ok (.iconst 2, 1) := by decide +kernel
theorem dX11_levels_91 : decode cX11_levels 91 = .ok (.iaload, 1) := by decide +kernel
theorem dX11_levels_92 : decode cX11_levels 92 = .ok (.if_icmp .ge 36, 3) := by decide +kernel
theorem dX11_levels_95 : decode cX11_levels 95 = .ok (.iload 5, 2) := by decide +kernel
theorem dX11_levels_97 : decode cX11_levels 97 = .ok (.aload_n 0, 1) := by decide +kernel
theorem dX11_levels_98 : decode cX11_levels 98 = .ok (.iload_n 1, 1) := by decide +kernel
theorem dX11_levels_99 : decode cX11_levels 99 = .ok (.iload 6, 2) := by decide +kernel
theorem dX11_setsFree_0 : decode cX11_setsFree 0 = .ok (.aload_n 0, 1) := by decide +kernel
theorem dX11_setsFree_1 : decode cX11_setsFree 1 = .ok (.getfield 9, 3) := by decide +kernel
theorem dX11_setsFree_10 : decode cX11_setsFree 10 = .ok (.iconst 1, 1) := by decide +kernel
theorem dX11_setsFree_101 : decode cX11_setsFree 101 = .ok (.iconst 1, 1) := by decide +kernel
theorem dX11_setsFree_102 : decode cX11_setsFree 102 = .ok (.goto 4, 3) := by decide +kernel
theorem dX11_setsFree_105 : decode cX11_setsFree 105 = .ok (.iconst 0, 1) := by decide +kernel
theorem dX11_setsFree_106 : decode cX11_setsFree 106 = .ok (.ireturn, 1) := by decide +kernel
theorem dX11_setsFree_11 : decode cX11_setsFree 11 = .ok (.ireturn, 1) := by decide +kernel
theorem dX11_setsFree_12 : decode cX11_setsFree 12 = .ok (.aload_n 0, 1) := by decide +kernel
theorem dX11_setsFree_13 : decode cX11_setsFree 13 = .ok (.getfield 33, 3) := by decide +kernel
theorem dX11_setsFree_16 : decode cX11_setsFree 16 = .ok (.iconst 0, 1) := by decide +kernel
theorem dX11_setsFree_17 : decode cX11_setsFree 17 = .ok (.aload_n 0, 1) := by decide +kernel
theorem dX11_setsFree_18 : decode cX11_setsFree 18 = .ok (.getfield 9, 3) := by decide +kernel
theorem dX11_setsFree_21 : decode cX11_setsFree 21 = .ok (.bipush 45, 2) := by decide +kernel
theorem dX11_setsFree_23 : decode cX11_setsFree 23 = .ok (.iload_n 1, 1) := by decide +kernel
theorem dX11_setsFree_24 : decode cX11_setsFree 24 = .ok (.iadd, 1) := by decide +kernel
theorem dX11_setsFree_25 : decode cX11_setsFree 25 = .ok (.iaload, 1) := by decide +kernel
theorem dX11_setsFree_26 : decode cX11_setsFree 26 = .ok (.iastore, 1) := by decide +kernel
theorem dX11_setsFree_27 : decode cX11_setsFree 27 = .ok (.aload_n 0, 1) := by decide +kernel
theorem dX11_setsFree_28 : decode cX11_setsFree 28 = .ok (.getfield 33, 3) := by decide +kernel
theorem dX11_setsFree_31 : decode cX11_setsFree 31 = .ok (.iconst 1, 1) := by decide +kernel
theorem dX11_setsFree_32 : decode cX11_setsFree 32 = .ok (.aload_n 0, 1) := by decide +kernel
theorem dX11_setsFree_33 : decode cX11_setsFree 33 = .ok (.getfield 9, 3) := by decide +kernel
theorem dX11_setsFree_36 : decode cX11_setsFree 36 = .ok (.bipush 45, 2) := by decide +kernel
theorem dX11_setsFree_38 : decode cX11_setsFree 38 = .ok (.iload_n 2, 1) := by decide +kernel
theorem dX11_setsFree_39 : decode cX11_setsFree 39 = .ok (.iadd, 1) := by decide +kernel
theorem dX11_setsFree_4 : decode cX11_setsFree 4 = .ok (.bipush 6, 2) := by decide +kernel
theorem dX11_setsFree_40 : decode cX11_setsFree 40 = .ok (.iaload, 1) := by decide +kernel
theorem dX11_setsFree_41 : decode cX11_setsFree 41 = .ok (.iastore, 1) := by decide +kernel
theorem dX11_setsFree_42 : decode cX11_setsFree 42 = .ok (.aload_n 0, 1) := by decide +kernel
theorem dX11_setsFree_43 : decode cX11_setsFree 43 = .ok (.getfield 33, 3) := by decide +kernel
theorem dX11_setsFree_46 : decode cX11_setsFree 46 = .ok (.iconst 2, 1) := by decide +kernel
theorem dX11_setsFree_47 : decode cX11_setsFree 47 = .ok (.aload_n 0, 1) := by decide +kernel
theorem dX11_setsFree_48 : decode cX11_setsFree 48 = .ok (.getfield 9, 3) := by decide +kernel
theorem dX11_setsFree_51 : decode cX11_setsFree 51 = .ok (.bipush 24, 2) := by decide +kernel
theorem dX11_setsFree_53 : decode cX11_setsFree 53 = .ok (.iload_n 1, 1) := by decide +kernel
theorem dX11_setsFree_54 : decode cX11_setsFree 54 = .ok (.iadd, 1) := by decide +kernel
theorem dX11_setsFree_55 : decode cX11_setsFree 55 = .ok (.iaload, 1) := by decide +kernel
theorem dX11_setsFree_56 : decode cX11_setsFree 56 = .ok (.iastore, 1) := by decide +kernel
theorem dX11_setsFree_57 : decode cX11_setsFree 57 = .ok (.aload_n 0, 1) := by decide +kernel
theorem dX11_setsFree_58 : decode cX11_setsFree 58 = .ok (.getfield 33, 3) := by decide +kernel
theorem dX11_setsFree_6 : decode cX11_setsFree 6 = .ok (.iaload, 1) := by decide +kernel
theorem dX11_setsFree_61 : decode cX11_setsFree 61 = .ok (.iconst 3, 1) := by decide +kernel
theorem dX11_setsFree_62 : decode cX11_setsFree 62 = .ok (.aload_n 0, 1) := by decide +kernel
theorem dX11_setsFree_63 : decode cX11_setsFree 63 = .ok (.getfield 9, 3) := by decide +kernel
theorem dX11_setsFree_66 : decode cX11_setsFree 66 = .ok (.bipush 24, 2) := by decide +kernel
theorem dX11_setsFree_68 : decode cX11_setsFree 68 = .ok (.iload_n 2, 1) := by decide +kernel
theorem dX11_setsFree_69 : decode cX11_setsFree 69 = .ok (.iadd, 1) := by decide +kernel
theorem dX11_setsFree_7 : decode cX11_setsFree 7 = .ok (.ifCond .ne 5, 3) := by decide +kernel
theorem dX11_setsFree_70 : decode cX11_setsFree 70 = .ok (.iaload, 1) := by decide +kernel
theorem dX11_setsFree_71 : decode cX11_setsFree 71 = .ok (.iastore, 1) := by decide +kernel
theorem dX11_setsFree_72 : decode cX11_setsFree 72 = .ok (.aload_n 0, 1) := by decide +kernel
theorem dX11_setsFree_73 : decode cX11_setsFree 73 = .ok (.getfield 33, 3) := by decide +kernel
theorem dX11_setsFree_76 : decode cX11_setsFree 76 = .ok (.iconst 4, 1) := by decide +kernel
theorem dX11_setsFree_77 : decode cX11_setsFree 77 = .ok (.aload_n 0, 1) := by decide +kernel
theorem dX11_setsFree_78 : decode cX11_setsFree 78 = .ok (.getfield 9, 3) := by decide +kernel
theorem dX11_setsFree_81 : decode cX11_setsFree 81 = .ok (.bipush 40, 2) := by decide +kernel
theorem dX11_setsFree_83 : decode cX11_setsFree 83 = .ok (.iaload, 1) := by decide +kernel
theorem dX11_setsFree_84 : decode cX11_setsFree 84 = .ok (.bipush 24, 2) := by decide +kernel
theorem dX11_setsFree_86 : decode cX11_setsFree 86 = .ok (.irem, 1) := by decide +kernel
theorem dX11_setsFree_87 : decode cX11_setsFree 87 = .ok (.iastore, 1) := by decide +kernel
theorem dX11_setsFree_88 : decode cX11_setsFree 88 = .ok (.aload_n 0, 1) := by decide +kernel
theorem dX11_setsFree_89 : decode cX11_setsFree 89 = .ok (.bipush 6, 2) := by decide +kernel
theorem dX11_setsFree_91 : decode cX11_setsFree 91 = .ok (.sipush 1359, 3) := by decide +kernel
theorem dX11_setsFree_94 : decode cX11_setsFree 94 = .ok (.invokevirtual 313, 3) := by decide +kernel
theorem dX11_setsFree_97 : decode cX11_setsFree 97 = .ok (.iconst 1, 1) := by decide +kernel
theorem dX11_setsFree_98 : decode cX11_setsFree 98 = .ok (.if_icmp .ne 7, 3) := by decide +kernel
theorem dX11_take_0 : decode cX11_take 0 = .ok (.aload_n 0, 1) := by decide +kernel
theorem dX11_take_1 : decode cX11_take 1 = .ok (.iconst 0, 1) := by decide +kernel
theorem dX11_take_11 : decode cX11_take 11 = .ok (.istore_n 2, 1) := by decide +kernel
theorem dX11_take_12 : decode cX11_take 12 = .ok (.iload_n 2, 1) := by decide +kernel
theorem dX11_take_13 : decode cX11_take 13 = .ok (.ifCond .eq 6, 3) := by decide +kernel
theorem dX11_take_16 : decode cX11_take 16 = .ok (.iload_n 2, 1) := by decide +kernel
theorem dX11_take_17 : decode cX11_take 17 = .ok (.ineg, 1) := by decide +kernel
theorem dX11_take_18 : decode cX11_take 18 = .ok (.ireturn, 1) := by decide +kernel
theorem dX11_take_19 : decode cX11_take 19 = .ok (.aload_n 0, 1) := by decide +kernel
theorem dX11_take_2 : decode cX11_take 2 = .ok (.putfield 70, 3) := by decide +kernel
theorem dX11_take_20 : decode cX11_take 20 = .ok (.invokevirtual 383, 3) := by decide +kernel
theorem dX11_take_23 : decode cX11_take 23 = .ok (.aload_n 0, 1) := by decide +kernel
theorem dX11_take_24 : decode cX11_take 24 = .ok (.iload_n 1, 1) := by decide +kernel
theorem dX11_take_25 : decode cX11_take 25 = .ok (.invokevirtual 393, 3) := by decide +kernel
theorem dX11_take_28 : decode cX11_take 28 = .ok (.aload_n 0, 1) := by decide +kernel
theorem dX11_take_29 : decode cX11_take 29 = .ok (.getfield 9, 3) := by decide +kernel
theorem dX11_take_32 : decode cX11_take 32 = .ok (.bipush 45, 2) := by decide +kernel
theorem dX11_take_34 : decode cX11_take 34 = .ok (.iload_n 1, 1) := by decide +kernel
theorem dX11_take_35 : decode cX11_take 35 = .ok (.iadd, 1) := by decide +kernel
theorem dX11_take_36 : decode cX11_take 36 = .ok (.iaload, 1) := by decide +kernel
theorem dX11_take_37 : decode cX11_take 37 = .ok (.ireturn, 1) := by decide +kernel
theorem dX11_take_5 : decode cX11_take 5 = .ok (.aload_n 0, 1) := by decide +kernel
theorem dX11_take_6 : decode cX11_take 6 = .ok (.iload_n 1, 1) := by decide +kernel
theorem dX11_take_7 : decode cX11_take 7 = .ok (.i2l, 1) := by decide +kernel
theorem dX11_take_8 : decode cX11_take 8 = .ok (.invokevirtual 390, 3) := by decide +kernel
theorem dX11_takes_0 : decode cX11_takes 0 = .ok (.aload_n 0, 1) := by decide +kernel
theorem dX11_takes_1 : decode cX11_takes 1 = .ok (.getfield 9, 3) := by decide +kernel
theorem dX11_takes_10 : decode cX11_takes 10 = .ok (.aload_n 0, 1) := by decide +kernel
theorem dX11_takes_11 : decode cX11_takes 11 = .ok (.getfield 9, 3) := by decide +kernel
theorem dX11_takes_14 : decode cX11_takes 14 = .ok (.bipush 16, 2) := by decide +kernel
theorem dX11_takes_16 : decode cX11_takes 16 = .ok (.iload_n 1, 1) := by decide +kernel
theorem dX11_takes_17 : decode cX11_takes 17 = .ok (.iadd, 1) := by decide +kernel
theorem dX11_takes_18 : decode cX11_takes 18 = .ok (.iconst (-1), 1) := by decide +kernel
theorem dX11_takes_19 : decode cX11_takes 19 = .ok (.iastore, 1) := by decide +kernel
theorem dX11_takes_20 : decode cX11_takes 20 = .ok (.aload_n 0, 1) := by decide +kernel
theorem dX11_takes_21 : decode cX11_takes 21 = .ok (.getfield 9, 3) := by decide +kernel
theorem dX11_takes_24 : decode cX11_takes 24 = .ok (.bipush 24, 2) := by decide +kernel
theorem dX11_takes_26 : decode cX11_takes 26 = .ok (.iload_n 1, 1) := by decide +kernel
theorem dX11_takes_27 : decode cX11_takes 27 = .ok (.iadd, 1) := by decide +kernel
theorem dX11_takes_28 : decode cX11_takes 28 = .ok (.iconst (-1), 1) := by decide +kernel
theorem dX11_takes_29 : decode cX11_takes 29 = .ok (.iastore, 1) := by decide +kernel
theorem dX11_takes_30 : decode cX11_takes 30 = .ok (.aload_n 0, 1) := by decide +kernel
theorem dX11_takes_31 : decode cX11_takes 31 = .ok (.getfield 9, 3) := by decide +kernel
theorem dX11_takes_34 : decode cX11_takes 34 = .ok (.bipush 32, 2) := by decide +kernel
theorem dX11_takes_36 : decode cX11_takes 36 = .ok (.iload_n 1, 1) := by decide +kernel
theorem dX11_takes_37 : decode cX11_takes 37 = .ok (.iadd, 1) := by decide +kernel
theorem dX11_takes_38 : decode cX11_takes 38 = .ok (.aload_n 0, 1) := by decide +kernel
theorem dX11_takes_39 : decode cX11_takes 39 = .ok (.getfield 9, 3) := by decide +kernel
theorem dX11_takes_4 : decode cX11_takes 4 = .ok (.bipush 8, 2) := by decide +kernel
theorem dX11_takes_42 : decode cX11_takes 42 = .ok (.bipush 40, 2) := by decide +kernel
theorem dX11_takes_44 : decode cX11_takes 44 = .ok (.iaload, 1) := by decide +kernel
theorem dX11_takes_45 : decode cX11_takes 45 = .ok (.iastore, 1) := by decide +kernel
theorem dX11_takes_46 : decode cX11_takes 46 = .ok (.return_, 1) := by decide +kernel
theorem dX11_takes_6 : decode cX11_takes 6 = .ok (.iload_n 1, 1) := by decide +kernel
theorem dX11_takes_7 : decode cX11_takes 7 = .ok (.iadd, 1) := by decide +kernel
theorem dX11_takes_8 : decode cX11_takes 8 = .ok (.iconst 0, 1) := by decide +kernel
theorem dX11_takes_9 : decode cX11_takes 9 = .ok (.iastore, 1) := by decide +kernel
theorem dX11_walker_0 : decode cX11_walker 0 = .ok (.aload_n 0, 1) := by decide +kernel
theorem dX11_walker_1 : decode cX11_walker 1 = .ok (.aload_n 0, 1) := by decide +kernel
theorem dX11_walker_10 : decode cX11_walker 10 = .ok (.goto 20, 3) := by decide +kernel
theorem dX11_walker_13 : decode cX11_walker 13 = .ok (.iload_n 2, 1) := by decide +kernel
theorem dX11_walker_14 : decode cX11_walker 14 = .ok (.i2l, 1) := by decide +kernel
theorem dX11_walker_15 : decode cX11_walker 15 = .ok (.lconst 0, 1) := by decide +kernel
theorem dX11_walker_16 : decode cX11_walker 16 = .ok (.ldc2_w 371, 3) := by decide +kernel
theorem dX11_walker_19 : decode cX11_walker 19 = .ok (.invokestatic 131, 3) := by decide +kernel
theorem dX11_walker_2 : decode cX11_walker 2 = .ok (.iload_n 1, 1) := by decide +kernel
theorem dX11_walker_22 : decode cX11_walker 22 = .ok (.ifCond .eq 7, 3) := by decide +kernel
theorem dX11_walker_25 : decode cX11_walker 25 = .ok (.iconst 0, 1) := by decide +kernel
theorem dX11_walker_26 : decode cX11_walker 26 = .ok (.goto 4, 3) := by decide +kernel
theorem dX11_walker_29 : decode cX11_walker 29 = .ok (.iconst 2, 1) := by decide +kernel
theorem dX11_walker_3 : decode cX11_walker 3 = .ok (.invokevirtual 368, 3) := by decide +kernel
theorem dX11_walker_30 : decode cX11_walker 30 = .ok (.putfield 70, 3) := by decide +kernel
theorem dX11_walker_33 : decode cX11_walker 33 = .ok (.aload_n 0, 1) := by decide +kernel
theorem dX11_walker_34 : decode cX11_walker 34 = .ok (.getfield 70, 3) := by decide +kernel
theorem dX11_walker_37 : decode cX11_walker 37 = .ok (.ifCond .le 5, 3) := by decide +kernel
theorem dX11_walker_40 : decode cX11_walker 40 = .ok (.iconst 0, 1) := by decide +kernel
theorem dX11_walker_41 : decode cX11_walker 41 = .ok (.ireturn, 1) := by decide +kernel
theorem dX11_walker_42 : decode cX11_walker 42 = .ok (.iload_n 2, 1) := by decide +kernel
theorem dX11_walker_43 : decode cX11_walker 43 = .ok (.ifCond .ne 18, 3) := by decide +kernel
theorem dX11_walker_46 : decode cX11_walker 46 = .ok (.aload_n 0, 1) := by decide +kernel
theorem dX11_walker_47 : decode cX11_walker 47 = .ok (.iload_n 1, 1) := by decide +kernel
theorem dX11_walker_48 : decode cX11_walker 48 = .ok (.aload_n 0, 1) := by decide +kernel
theorem dX11_walker_49 : decode cX11_walker 49 = .ok (.getfield 9, 3) := by decide +kernel
theorem dX11_walker_52 : decode cX11_walker 52 = .ok (.bipush 40, 2) := by decide +kernel
theorem dX11_walker_54 : decode cX11_walker 54 = .ok (.iaload, 1) := by decide +kernel
theorem dX11_walker_55 : decode cX11_walker 55 = .ok (.invokevirtual 345, 3) := by decide +kernel
theorem dX11_walker_58 : decode cX11_walker 58 = .ok (.goto 29, 3) := by decide +kernel
theorem dX11_walker_6 : decode cX11_walker 6 = .ok (.ifCond .ne 7, 3) := by decide +kernel
theorem dX11_walker_61 : decode cX11_walker 61 = .ok (.iload_n 2, 1) := by decide +kernel
theorem dX11_walker_62 : decode cX11_walker 62 = .ok (.iconst 1, 1) := by decide +kernel
theorem dX11_walker_63 : decode cX11_walker 63 = .ok (.if_icmp .ne 15, 3) := by decide +kernel
theorem dX11_walker_66 : decode cX11_walker 66 = .ok (.aload_n 0, 1) := by decide +kernel
theorem dX11_walker_67 : decode cX11_walker 67 = .ok (.getfield 9, 3) := by decide +kernel
theorem dX11_walker_70 : decode cX11_walker 70 = .ok (.bipush 41, 2) := by decide +kernel
theorem dX11_walker_72 : decode cX11_walker 72 = .ok (.iload_n 1, 1) := by decide +kernel
theorem dX11_walker_73 : decode cX11_walker 73 = .ok (.iadd, 1) := by decide +kernel
theorem dX11_walker_74 : decode cX11_walker 74 = .ok (.iaload, 1) := by decide +kernel
theorem dX11_walker_75 : decode cX11_walker 75 = .ok (.goto 12, 3) := by decide +kernel
theorem dX11_walker_78 : decode cX11_walker 78 = .ok (.aload_n 0, 1) := by decide +kernel
theorem dX11_walker_79 : decode cX11_walker 79 = .ok (.getfield 9, 3) := by decide +kernel
theorem dX11_walker_82 : decode cX11_walker 82 = .ok (.bipush 53, 2) := by decide +kernel
theorem dX11_walker_84 : decode cX11_walker 84 = .ok (.iload_n 1, 1) := by decide +kernel
theorem dX11_walker_85 : decode cX11_walker 85 = .ok (.iadd, 1) := by decide +kernel
theorem dX11_walker_86 : decode cX11_walker 86 = .ok (.iaload, 1) := by decide +kernel
theorem dX11_walker_87 : decode cX11_walker 87 = .ok (.ireturn, 1) := by decide +kernel
theorem dX11_walker_9 : decode cX11_walker 9 = .ok (.iconst 1, 1) := by decide +kernel
theorem dX11_walkersIn_0 : decode cX11_walkersIn 0 = .ok (.iconst 0, 1) := by decide +kernel
theorem dX11_walkersIn_1 : decode cX11_walkersIn 1 = .ok (.istore_n 3, 1) := by decide +kernel
theorem dX11_walkersIn_11 : decode cX11_walkersIn 11 = .ok (.iconst 4, 1) := by decide +kernel
theorem dX11_walkersIn_12 : decode cX11_walkersIn 12 = .ok (.iaload, 1) := by decide +kernel
theorem dX11_walkersIn_13 : decode cX11_walkersIn 13 = .ok (.if_icmp .ge 36, 3) := by decide +kernel
theorem dX11_walkersIn_16 : decode cX11_walkersIn 16 = .ok (.iload_n 3, 1) := by decide +kernel
theorem dX11_walkersIn_17 : decode cX11_walkersIn 17 = .ok (.aload_n 0, 1) := by decide +kernel
theorem dX11_walkersIn_18 : decode cX11_walkersIn 18 = .ok (.iload 4, 2) := by decide +kernel
theorem dX11_walkersIn_2 : decode cX11_walkersIn 2 = .ok (.iconst 0, 1) := by decide +kernel
theorem dX11_walkersIn_20 : decode cX11_walkersIn 20 = .ok (.aload_n 0, 1) := by decide +kernel
theorem dX11_walkersIn_21 : decode cX11_walkersIn 21 = .ok (.getfield 9, 3) := by decide +kernel
theorem dX11_walkersIn_24 : decode cX11_walkersIn 24 = .ok (.bipush 40, 2) := by decide +kernel
theorem dX11_walkersIn_26 : decode cX11_walkersIn 26 = .ok (.iaload, 1) := by decide +kernel
theorem dX11_walkersIn_27 : decode cX11_walkersIn 27 = .ok (.iload_n 2, 1) := by decide +kernel
theorem dX11_walkersIn_28 : decode cX11_walkersIn 28 = .ok (.iadd, 1) := by decide +kernel
theorem dX11_walkersIn_29 : decode cX11_walkersIn 29 = .ok (.invokevirtual 345, 3) := by decide +kernel
theorem dX11_walkersIn_3 : decode cX11_walkersIn 3 = .ok (.istore 4, 2) := by decide +kernel
theorem dX11_walkersIn_32 : decode cX11_walkersIn 32 = .ok (.iload_n 1, 1) := by decide +kernel
theorem dX11_walkersIn_33 : decode cX11_walkersIn 33 = .ok (.if_icmp .ne 7, 3) := by decide +kernel
theorem dX11_walkersIn_36 : decode cX11_walkersIn 36 = .ok (.iconst 1, 1) := by decide +kernel
theorem dX11_walkersIn_37 : decode cX11_walkersIn 37 = .ok (.goto 4, 3) := by decide +kernel
theorem dX11_walkersIn_40 : decode cX11_walkersIn 40 = .ok (.iconst 0, 1) := by decide +kernel
theorem dX11_walkersIn_41 : decode cX11_walkersIn 41 = .ok (.iadd, 1) := by decide +kernel
theorem dX11_walkersIn_42 : decode cX11_walkersIn 42 = .ok (.istore_n 3, 1) := by decide +kernel
theorem dX11_walkersIn_43 : decode cX11_walkersIn 43 = .ok (.iinc 4 1, 3) := by decide +kernel
theorem dX11_walkersIn_46 : decode cX11_walkersIn 46 = .ok (.goto (-41), 3) := by decide +kernel
theorem dX11_walkersIn_49 : decode cX11_walkersIn 49 = .ok (.iload_n 3, 1) := by decide +kernel
theorem dX11_walkersIn_5 : decode cX11_walkersIn 5 = .ok (.iload 4, 2) := by decide +kernel
theorem dX11_walkersIn_50 : decode cX11_walkersIn 50 = .ok (.ireturn, 1) := by decide +kernel
theorem dX11_walkersIn_7 : decode cX11_walkersIn 7 = .ok (.aload_n 0, 1) := by decide +kernel
theorem dX11_walkersIn_8 : decode cX11_walkersIn 8 = .ok (.getfield 9, 3) := by decide +kernel
theorem dX11_walks_0 : decode cX11_walks 0 = .ok (.aload_n 0, 1) := by decide +kernel
theorem dX11_walks_1 : decode cX11_walks 1 = .ok (.getfield 9, 3) := by decide +kernel
theorem dX11_walks_10 : decode cX11_walks 10 = .ok (.iadd, 1) := by decide +kernel
theorem dX11_walks_11 : decode cX11_walks 11 = .ok (.iload_n 2, 1) := by decide +kernel
theorem dX11_walks_12 : decode cX11_walks 12 = .ok (.aload_n 0, 1) := by decide +kernel
theorem dX11_walks_13 : decode cX11_walks 13 = .ok (.getfield 9, 3) := by decide +kernel
theorem dX11_walks_16 : decode cX11_walks 16 = .ok (.bipush 53, 2) := by decide +kernel
theorem dX11_walks_18 : decode cX11_walks 18 = .ok (.iload_n 1, 1) := by decide +kernel
theorem dX11_walks_19 : decode cX11_walks 19 = .ok (.iadd, 1) := by decide +kernel
theorem dX11_walks_20 : decode cX11_walks 20 = .ok (.iaload, 1) := by decide +kernel
theorem dX11_walks_21 : decode cX11_walks 21 = .ok (.irem, 1) := by decide +kernel
theorem dX11_walks_22 : decode cX11_walks 22 = .ok (.iadd, 1) := by decide +kernel
theorem dX11_walks_23 : decode cX11_walks 23 = .ok (.iaload, 1) := by decide +kernel
theorem dX11_walks_24 : decode cX11_walks 24 = .ok (.ireturn, 1) := by decide +kernel
theorem dX11_walks_4 : decode cX11_walks 4 = .ok (.bipush 57, 2) := by decide +kernel
theorem dX11_walks_6 : decode cX11_walks 6 = .ok (.bipush 8, 2) := by decide +kernel
theorem dX11_walks_8 : decode cX11_walks 8 = .ok (.iload_n 1, 1) := by decide +kernel
theorem dX11_walks_9 : decode cX11_walks 9 = .ok (.imul, 1) := by decide +kernel
