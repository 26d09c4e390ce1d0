theorem dX11_goesTo_0 : decode cX11_goesTo 0 = .ok (.aload_n 0, 1) := by decide +kernel
theorem dX11_goesTo_1 : decode cX11_goesTo 1 = .ok (.getfield 9, 3) := by decide +kernel
theorem dX11_goesTo_10 : decode cX11_goesTo 10 = .ok (.putfield 339, 3) := by decide +kernel
theorem dX11_goesTo_13 : decode cX11_goesTo 13 = .ok (.aload_n 0, 1) := by decide +kernel
theorem dX11_goesTo_14 : decode cX11_goesTo 14 = .ok (.iconst 0, 1) := by decide +kernel
theorem dX11_goesTo_15 : decode cX11_goesTo 15 = .ok (.putfield 342, 3) := by decide +kernel
theorem dX11_goesTo_18 : decode cX11_goesTo 18 = .ok (.aload_n 0, 1) := by decide +kernel
theorem dX11_goesTo_19 : decode cX11_goesTo 19 = .ok (.iconst 0, 1) := by decide +kernel
theorem dX11_goesTo_20 : decode cX11_goesTo 20 = .ok (.invokevirtual 351, 3) := by decide +kernel
theorem dX11_goesTo_23 : decode cX11_goesTo 23 = .ok (.return_, 1) := by decide +kernel
theorem dX11_goesTo_4 : decode cX11_goesTo 4 = .ok (.bipush 40, 2) := by decide +kernel
theorem dX11_goesTo_6 : decode cX11_goesTo 6 = .ok (.iload_n 1, 1) := by decide +kernel
theorem dX11_goesTo_7 : decode cX11_goesTo 7 = .ok (.iastore, 1) := by decide +kernel
theorem dX11_goesTo_8 : decode cX11_goesTo 8 = .ok (.aload_n 0, 1) := by decide +kernel
theorem dX11_goesTo_9 : decode cX11_goesTo 9 = .ok (.iconst 0, 1) := by decide +kernel
theorem dX11_hour_0 : decode cX11_hour 0 = .ok (.aload_n 0, 1) := by decide +kernel
theorem dX11_hour_1 : decode cX11_hour 1 = .ok (.aload_n 0, 1) := by decide +kernel
theorem dX11_hour_10 : decode cX11_hour 10 = .ok (.invokevirtual 355, 3) := by decide +kernel
theorem dX11_hour_13 : decode cX11_hour 13 = .ok (.return_, 1) := by decide +kernel
theorem dX11_hour_2 : decode cX11_hour 2 = .ok (.getfield 9, 3) := by decide +kernel
theorem dX11_hour_5 : decode cX11_hour 5 = .ok (.bipush 40, 2) := by decide +kernel
theorem dX11_hour_7 : decode cX11_hour 7 = .ok (.iaload, 1) := by decide +kernel
theorem dX11_hour_8 : decode cX11_hour 8 = .ok (.iconst 1, 1) := by decide +kernel
theorem dX11_hour_9 : decode cX11_hour 9 = .ok (.iadd, 1) := by decide +kernel
theorem dX11_hours_0 : decode cX11_hours 0 = .ok (.aload_n 0, 1) := by decide +kernel
theorem dX11_hours_1 : decode cX11_hours 1 = .ok (.iconst 0, 1) := by decide +kernel
theorem dX11_hours_11 : decode cX11_hours 11 = .ok (.invokestatic 131, 3) := by decide +kernel
theorem dX11_hours_14 : decode cX11_hours 14 = .ok (.ifCond .ne 9, 3) := by decide +kernel
theorem dX11_hours_17 : decode cX11_hours 17 = .ok (.aload_n 0, 1) := by decide +kernel
theorem dX11_hours_18 : decode cX11_hours 18 = .ok (.iconst 1, 1) := by decide +kernel
theorem dX11_hours_19 : decode cX11_hours 19 = .ok (.invokevirtual 269, 3) := by decide +kernel
theorem dX11_hours_2 : decode cX11_hours 2 = .ok (.putfield 70, 3) := by decide +kernel
theorem dX11_hours_22 : decode cX11_hours 22 = .ok (.ireturn, 1) := by decide +kernel
theorem dX11_hours_23 : decode cX11_hours 23 = .ok (.aload_n 0, 1) := by decide +kernel
theorem dX11_hours_24 : decode cX11_hours 24 = .ok (.invokevirtual 383, 3) := by decide +kernel
theorem dX11_hours_27 : decode cX11_hours 27 = .ok (.iconst 0, 1) := by decide +kernel
theorem dX11_hours_28 : decode cX11_hours 28 = .ok (.istore_n 2, 1) := by decide +kernel
theorem dX11_hours_29 : decode cX11_hours 29 = .ok (.iconst 0, 1) := by decide +kernel
theorem dX11_hours_30 : decode cX11_hours 30 = .ok (.istore_n 3, 1) := by decide +kernel
theorem dX11_hours_31 : decode cX11_hours 31 = .ok (.iload_n 3, 1) := by decide +kernel
theorem dX11_hours_32 : decode cX11_hours 32 = .ok (.iload_n 1, 1) := by decide +kernel
theorem dX11_hours_33 : decode cX11_hours 33 = .ok (.if_icmp .ge 23, 3) := by decide +kernel
theorem dX11_hours_36 : decode cX11_hours 36 = .ok (.aload_n 0, 1) := by decide +kernel
theorem dX11_hours_37 : decode cX11_hours 37 = .ok (.invokevirtual 401, 3) := by decide +kernel
theorem dX11_hours_40 : decode cX11_hours 40 = .ok (.iload_n 2, 1) := by decide +kernel
theorem dX11_hours_41 : decode cX11_hours 41 = .ok (.aload_n 0, 1) := by decide +kernel
theorem dX11_hours_42 : decode cX11_hours 42 = .ok (.getfield 339, 3) := by decide +kernel
theorem dX11_hours_45 : decode cX11_hours 45 = .ok (.invokestatic 330, 3) := by decide +kernel
theorem dX11_hours_48 : decode cX11_hours 48 = .ok (.iadd, 1) := by decide +kernel
theorem dX11_hours_49 : decode cX11_hours 49 = .ok (.istore_n 2, 1) := by decide +kernel
theorem dX11_hours_5 : decode cX11_hours 5 = .ok (.iload_n 1, 1) := by decide +kernel
theorem dX11_hours_50 : decode cX11_hours 50 = .ok (.iinc 3 1, 3) := by decide +kernel
theorem dX11_hours_53 : decode cX11_hours 53 = .ok (.goto (-22), 3) := by decide +kernel
theorem dX11_hours_56 : decode cX11_hours 56 = .ok (.iload_n 2, 1) := by decide +kernel
theorem dX11_hours_57 : decode cX11_hours 57 = .ok (.ireturn, 1) := by decide +kernel
theorem dX11_hours_6 : decode cX11_hours 6 = .ok (.i2l, 1) := by decide +kernel
theorem dX11_hours_7 : decode cX11_hours 7 = .ok (.lconst 1, 1) := by decide +kernel
theorem dX11_hours_8 : decode cX11_hours 8 = .ok (.ldc2_w 399, 3) := by decide +kernel
theorem dX11_lets_0 : decode cX11_lets 0 = .ok (.aload_n 0, 1) := by decide +kernel
theorem dX11_lets_1 : decode cX11_lets 1 = .ok (.aload_n 0, 1) := by decide +kernel
theorem dX11_lets_100 : decode cX11_lets 100 = .ok (.iload 4, 2) := by decide +kernel
theorem dX11_lets_102 : decode cX11_lets 102 = .ok (.ifCond .ne 11, 3) := by decide +kernel
theorem dX11_lets_105 : decode cX11_lets 105 = .ok (.aload_n 0, 1) := by decide +kernel
theorem dX11_lets_106 : decode cX11_lets 106 = .ok (.iload_n 2, 1) := by decide +kernel
theorem dX11_lets_107 : decode cX11_lets 107 = .ok (.iconst 1, 1) := by decide +kernel
theorem dX11_lets_108 : decode cX11_lets 108 = .ok (.iload_n 1, 1) := by decide +kernel
theorem dX11_lets_109 : decode cX11_lets 109 = .ok (.ishl, 1) := by decide +kernel
theorem dX11_lets_110 : decode cX11_lets 110 = .ok (.invokevirtual 348, 3) := by decide +kernel
theorem dX11_lets_113 : decode cX11_lets 113 = .ok (.iload 4, 2) := by decide +kernel
theorem dX11_lets_115 : decode cX11_lets 115 = .ok (.ireturn, 1) := by decide +kernel
theorem dX11_lets_12 : decode cX11_lets 12 = .ok (.bipush 32, 2) := by decide +kernel
theorem dX11_lets_14 : decode cX11_lets 14 = .ok (.iload_n 1, 1) := by decide +kernel
theorem dX11_lets_15 : decode cX11_lets 15 = .ok (.iadd, 1) := by decide +kernel
theorem dX11_lets_16 : decode cX11_lets 16 = .ok (.iaload, 1) := by decide +kernel
theorem dX11_lets_17 : decode cX11_lets 17 = .ok (.isub, 1) := by decide +kernel
theorem dX11_lets_18 : decode cX11_lets 18 = .ok (.aload_n 0, 1) := by decide +kernel
theorem dX11_lets_19 : decode cX11_lets 19 = .ok (.getfield 9, 3) := by decide +kernel
theorem dX11_lets_2 : decode cX11_lets 2 = .ok (.getfield 9, 3) := by decide +kernel
theorem dX11_lets_22 : decode cX11_lets 22 = .ok (.bipush 45, 2) := by decide +kernel
theorem dX11_lets_24 : decode cX11_lets 24 = .ok (.iload_n 1, 1) := by decide +kernel
theorem dX11_lets_25 : decode cX11_lets 25 = .ok (.iadd, 1) := by decide +kernel
theorem dX11_lets_26 : decode cX11_lets 26 = .ok (.iaload, 1) := by decide +kernel
theorem dX11_lets_27 : decode cX11_lets 27 = .ok (.iload_n 2, 1) := by decide +kernel
theorem dX11_lets_28 : decode cX11_lets 28 = .ok (.iload_n 3, 1) := by decide +kernel
theorem dX11_lets_29 : decode cX11_lets 29 = .ok (.aload_n 0, 1) := by decide +kernel
theorem dX11_lets_30 : decode cX11_lets 30 = .ok (.getfield 9, 3) := by decide +kernel
theorem dX11_lets_33 : decode cX11_lets 33 = .ok (.bipush 40, 2) := by decide +kernel
theorem dX11_lets_35 : decode cX11_lets 35 = .ok (.iaload, 1) := by decide +kernel
theorem dX11_lets_36 : decode cX11_lets 36 = .ok (.invokevirtual 359, 3) := by decide +kernel
theorem dX11_lets_39 : decode cX11_lets 39 = .ok (.istore 4, 2) := by decide +kernel
theorem dX11_lets_41 : decode cX11_lets 41 = .ok (.aload_n 0, 1) := by decide +kernel
theorem dX11_lets_42 : decode cX11_lets 42 = .ok (.getfield 9, 3) := by decide +kernel
theorem dX11_lets_45 : decode cX11_lets 45 = .ok (.bipush 8, 2) := by decide +kernel
theorem dX11_lets_47 : decode cX11_lets 47 = .ok (.iload_n 1, 1) := by decide +kernel
theorem dX11_lets_48 : decode cX11_lets 48 = .ok (.iadd, 1) := by decide +kernel
theorem dX11_lets_49 : decode cX11_lets 49 = .ok (.iconst 1, 1) := by decide +kernel
theorem dX11_lets_5 : decode cX11_lets 5 = .ok (.bipush 40, 2) := by decide +kernel
theorem dX11_lets_50 : decode cX11_lets 50 = .ok (.iastore, 1) := by decide +kernel
theorem dX11_lets_51 : decode cX11_lets 51 = .ok (.aload_n 0, 1) := by decide +kernel
theorem dX11_lets_52 : decode cX11_lets 52 = .ok (.getfield 9, 3) := by decide +kernel
theorem dX11_lets_55 : decode cX11_lets 55 = .ok (.bipush 16, 2) := by decide +kernel
theorem dX11_lets_57 : decode cX11_lets 57 = .ok (.iload_n 1, 1) := by decide +kernel
theorem dX11_lets_58 : decode cX11_lets 58 = .ok (.iadd, 1) := by decide +kernel
theorem dX11_lets_59 : decode cX11_lets 59 = .ok (.iload_n 2, 1) := by decide +kernel
theorem dX11_lets_60 : decode cX11_lets 60 = .ok (.iastore, 1) := by decide +kernel
theorem dX11_lets_61 : decode cX11_lets 61 = .ok (.aload_n 0, 1) := by decide +kernel
theorem dX11_lets_62 : decode cX11_lets 62 = .ok (.getfield 9, 3) := by decide +kernel
theorem dX11_lets_65 : decode cX11_lets 65 = .ok (.bipush 24, 2) := by decide +kernel
theorem dX11_lets_67 : decode cX11_lets 67 = .ok (.iload_n 1, 1) := by decide +kernel
theorem dX11_lets_68 : decode cX11_lets 68 = .ok (.iadd, 1) := by decide +kernel
theorem dX11_lets_69 : decode cX11_lets 69 = .ok (.iload_n 3, 1) := by decide +kernel
theorem dX11_lets_7 : decode cX11_lets 7 = .ok (.iaload, 1) := by decide +kernel
theorem dX11_lets_70 : decode cX11_lets 70 = .ok (.iastore, 1) := by decide +kernel
theorem dX11_lets_71 : decode cX11_lets 71 = .ok (.aload_n 0, 1) := by decide +kernel
theorem dX11_lets_72 : decode cX11_lets 72 = .ok (.getfield 9, 3) := by decide +kernel
theorem dX11_lets_75 : decode cX11_lets 75 = .ok (.bipush 32, 2) := by decide +kernel
theorem dX11_lets_77 : decode cX11_lets 77 = .ok (.iload_n 1, 1) := by decide +kernel
theorem dX11_lets_78 : decode cX11_lets 78 = .ok (.iadd, 1) := by decide +kernel
theorem dX11_lets_79 : decode cX11_lets 79 = .ok (.aload_n 0, 1) := by decide +kernel
theorem dX11_lets_8 : decode cX11_lets 8 = .ok (.aload_n 0, 1) := by decide +kernel
theorem dX11_lets_80 : decode cX11_lets 80 = .ok (.getfield 9, 3) := by decide +kernel
theorem dX11_lets_83 : decode cX11_lets 83 = .ok (.bipush 40, 2) := by decide +kernel
theorem dX11_lets_85 : decode cX11_lets 85 = .ok (.iaload, 1) := by decide +kernel
theorem dX11_lets_86 : decode cX11_lets 86 = .ok (.iload 4, 2) := by decide +kernel
theorem dX11_lets_88 : decode cX11_lets 88 = .ok (.iadd, 1) := by decide +kernel
theorem dX11_lets_89 : decode cX11_lets 89 = .ok (.iastore, 1) := by decide +kernel
theorem dX11_lets_9 : decode cX11_lets 9 = .ok (.getfield 9, 3) := by decide +kernel
theorem dX11_lets_90 : decode cX11_lets 90 = .ok (.aload_n 0, 1) := by decide +kernel
theorem dX11_lets_91 : decode cX11_lets 91 = .ok (.iconst 0, 1) := by decide +kernel
theorem dX11_lets_92 : decode cX11_lets 92 = .ok (.putfield 339, 3) := by decide +kernel
theorem dX11_lets_95 : decode cX11_lets 95 = .ok (.aload_n 0, 1) := by decide +kernel
theorem dX11_lets_96 : decode cX11_lets 96 = .ok (.iconst 0, 1) := by decide +kernel
theorem dX11_lets_97 : decode cX11_lets 97 = .ok (.putfield 342, 3) := by decide +kernel
