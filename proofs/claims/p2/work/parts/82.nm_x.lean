theorem dX11_laysWay_0 : decode cX11_laysWay 0 = .ok (.aload_n 0, 1) := by decide +kernel
theorem dX11_laysWay_1 : decode cX11_laysWay 1 = .ok (.iload_n 1, 1) := by decide +kernel
theorem dX11_laysWay_10 : decode cX11_laysWay 10 = .ok (.if_icmp .gt 22, 3) := by decide +kernel
theorem dX11_laysWay_101 : decode cX11_laysWay 101 = .ok (.iload_n 3, 1) := by decide +kernel
theorem dX11_laysWay_102 : decode cX11_laysWay 102 = .ok (.if_icmp .gt 66, 3) := by decide +kernel
theorem dX11_laysWay_105 : decode cX11_laysWay 105 = .ok (.iload 5, 2) := by decide +kernel
theorem dX11_laysWay_107 : decode cX11_laysWay 107 = .ok (.ifCond .ne 9, 3) := by decide +kernel
theorem dX11_laysWay_110 : decode cX11_laysWay 110 = .ok (.iconst 1, 1) := by decide +kernel
theorem dX11_laysWay_111 : decode cX11_laysWay 111 = .ok (.iload_n 1, 1) := by decide +kernel
theorem dX11_laysWay_112 : decode cX11_laysWay 112 = .ok (.ishl, 1) := by decide +kernel
theorem dX11_laysWay_113 : decode cX11_laysWay 113 = .ok (.goto 19, 3) := by decide +kernel
theorem dX11_laysWay_116 : decode cX11_laysWay 116 = .ok (.aload_n 0, 1) := by decide +kernel
theorem dX11_laysWay_117 : decode cX11_laysWay 117 = .ok (.iconst 1, 1) := by decide +kernel
theorem dX11_laysWay_118 : decode cX11_laysWay 118 = .ok (.iload 4, 2) := by decide +kernel
theorem dX11_laysWay_120 : decode cX11_laysWay 120 = .ok (.ishl, 1) := by decide +kernel
theorem dX11_laysWay_121 : decode cX11_laysWay 121 = .ok (.invokevirtual 496, 3) := by decide +kernel
theorem dX11_laysWay_124 : decode cX11_laysWay 124 = .ok (.aload_n 0, 1) := by decide +kernel
theorem dX11_laysWay_125 : decode cX11_laysWay 125 = .ok (.getfield 48, 3) := by decide +kernel
theorem dX11_laysWay_128 : decode cX11_laysWay 128 = .ok (.iload 5, 2) := by decide +kernel
theorem dX11_laysWay_13 : decode cX11_laysWay 13 = .ok (.aload_n 0, 1) := by decide +kernel
theorem dX11_laysWay_130 : decode cX11_laysWay 130 = .ok (.iaload, 1) := by decide +kernel
theorem dX11_laysWay_131 : decode cX11_laysWay 131 = .ok (.iand, 1) := by decide +kernel
theorem dX11_laysWay_132 : decode cX11_laysWay 132 = .ok (.istore 6, 2) := by decide +kernel
theorem dX11_laysWay_134 : decode cX11_laysWay 134 = .ok (.iconst 0, 1) := by decide +kernel
theorem dX11_laysWay_135 : decode cX11_laysWay 135 = .ok (.istore 4, 2) := by decide +kernel
theorem dX11_laysWay_137 : decode cX11_laysWay 137 = .ok (.iload 6, 2) := by decide +kernel
theorem dX11_laysWay_139 : decode cX11_laysWay 139 = .ok (.iload 4, 2) := by decide +kernel
theorem dX11_laysWay_14 : decode cX11_laysWay 14 = .ok (.getfield 45, 3) := by decide +kernel
theorem dX11_laysWay_141 : decode cX11_laysWay 141 = .ok (.invokestatic 323, 3) := by decide +kernel
theorem dX11_laysWay_144 : decode cX11_laysWay 144 = .ok (.ifCond .ne 9, 3) := by decide +kernel
theorem dX11_laysWay_147 : decode cX11_laysWay 147 = .ok (.iinc 4 1, 3) := by decide +kernel
theorem dX11_laysWay_150 : decode cX11_laysWay 150 = .ok (.goto (-13), 3) := by decide +kernel
theorem dX11_laysWay_153 : decode cX11_laysWay 153 = .ok (.aload_n 0, 1) := by decide +kernel
theorem dX11_laysWay_154 : decode cX11_laysWay 154 = .ok (.getfield 51, 3) := by decide +kernel
theorem dX11_laysWay_157 : decode cX11_laysWay 157 = .ok (.iload 5, 2) := by decide +kernel
theorem dX11_laysWay_159 : decode cX11_laysWay 159 = .ok (.iload 4, 2) := by decide +kernel
theorem dX11_laysWay_161 : decode cX11_laysWay 161 = .ok (.iastore, 1) := by decide +kernel
theorem dX11_laysWay_162 : decode cX11_laysWay 162 = .ok (.iinc 5 1, 3) := by decide +kernel
theorem dX11_laysWay_165 : decode cX11_laysWay 165 = .ok (.goto (-66), 3) := by decide +kernel
theorem dX11_laysWay_168 : decode cX11_laysWay 168 = .ok (.iload_n 3, 1) := by decide +kernel
theorem dX11_laysWay_169 : decode cX11_laysWay 169 = .ok (.ireturn, 1) := by decide +kernel
theorem dX11_laysWay_17 : decode cX11_laysWay 17 = .ok (.iload_n 3, 1) := by decide +kernel
theorem dX11_laysWay_18 : decode cX11_laysWay 18 = .ok (.iaload, 1) := by decide +kernel
theorem dX11_laysWay_19 : decode cX11_laysWay 19 = .ok (.iload_n 2, 1) := by decide +kernel
theorem dX11_laysWay_2 : decode cX11_laysWay 2 = .ok (.invokevirtual 499, 3) := by decide +kernel
theorem dX11_laysWay_20 : decode cX11_laysWay 20 = .ok (.invokestatic 323, 3) := by decide +kernel
theorem dX11_laysWay_23 : decode cX11_laysWay 23 = .ok (.ifCond .ne 9, 3) := by decide +kernel
theorem dX11_laysWay_26 : decode cX11_laysWay 26 = .ok (.iinc 3 1, 3) := by decide +kernel
theorem dX11_laysWay_29 : decode cX11_laysWay 29 = .ok (.goto (-22), 3) := by decide +kernel
theorem dX11_laysWay_32 : decode cX11_laysWay 32 = .ok (.iload_n 3, 1) := by decide +kernel
theorem dX11_laysWay_33 : decode cX11_laysWay 33 = .ok (.bipush 60, 2) := by decide +kernel
theorem dX11_laysWay_35 : decode cX11_laysWay 35 = .ok (.if_icmp .le 5, 3) := by decide +kernel
theorem dX11_laysWay_38 : decode cX11_laysWay 38 = .ok (.iconst (-1), 1) := by decide +kernel
theorem dX11_laysWay_39 : decode cX11_laysWay 39 = .ok (.ireturn, 1) := by decide +kernel
theorem dX11_laysWay_40 : decode cX11_laysWay 40 = .ok (.aload_n 0, 1) := by decide +kernel
theorem dX11_laysWay_41 : decode cX11_laysWay 41 = .ok (.getfield 48, 3) := by decide +kernel
theorem dX11_laysWay_44 : decode cX11_laysWay 44 = .ok (.iload_n 3, 1) := by decide +kernel
theorem dX11_laysWay_45 : decode cX11_laysWay 45 = .ok (.iconst 1, 1) := by decide +kernel
theorem dX11_laysWay_46 : decode cX11_laysWay 46 = .ok (.iload_n 2, 1) := by decide +kernel
theorem dX11_laysWay_47 : decode cX11_laysWay 47 = .ok (.ishl, 1) := by decide +kernel
theorem dX11_laysWay_48 : decode cX11_laysWay 48 = .ok (.iastore, 1) := by decide +kernel
theorem dX11_laysWay_49 : decode cX11_laysWay 49 = .ok (.iload_n 3, 1) := by decide +kernel
theorem dX11_laysWay_5 : decode cX11_laysWay 5 = .ok (.iconst 0, 1) := by decide +kernel
theorem dX11_laysWay_50 : decode cX11_laysWay 50 = .ok (.iconst 1, 1) := by decide +kernel
theorem dX11_laysWay_51 : decode cX11_laysWay 51 = .ok (.isub, 1) := by decide +kernel
theorem dX11_laysWay_52 : decode cX11_laysWay 52 = .ok (.istore 4, 2) := by decide +kernel
theorem dX11_laysWay_54 : decode cX11_laysWay 54 = .ok (.iload 4, 2) := by decide +kernel
theorem dX11_laysWay_56 : decode cX11_laysWay 56 = .ok (.ifCond .lt 37, 3) := by decide +kernel
theorem dX11_laysWay_59 : decode cX11_laysWay 59 = .ok (.aload_n 0, 1) := by decide +kernel
theorem dX11_laysWay_6 : decode cX11_laysWay 6 = .ok (.istore_n 3, 1) := by decide +kernel
theorem dX11_laysWay_60 : decode cX11_laysWay 60 = .ok (.getfield 48, 3) := by decide +kernel
theorem dX11_laysWay_63 : decode cX11_laysWay 63 = .ok (.iload 4, 2) := by decide +kernel
theorem dX11_laysWay_65 : decode cX11_laysWay 65 = .ok (.aload_n 0, 1) := by decide +kernel
theorem dX11_laysWay_66 : decode cX11_laysWay 66 = .ok (.aload_n 0, 1) := by decide +kernel
theorem dX11_laysWay_67 : decode cX11_laysWay 67 = .ok (.getfield 48, 3) := by decide +kernel
theorem dX11_laysWay_7 : decode cX11_laysWay 7 = .ok (.iload_n 3, 1) := by decide +kernel
theorem dX11_laysWay_70 : decode cX11_laysWay 70 = .ok (.iload 4, 2) := by decide +kernel
theorem dX11_laysWay_72 : decode cX11_laysWay 72 = .ok (.iconst 1, 1) := by decide +kernel
theorem dX11_laysWay_73 : decode cX11_laysWay 73 = .ok (.iadd, 1) := by decide +kernel
theorem dX11_laysWay_74 : decode cX11_laysWay 74 = .ok (.iaload, 1) := by decide +kernel
theorem dX11_laysWay_75 : decode cX11_laysWay 75 = .ok (.invokevirtual 496, 3) := by decide +kernel
theorem dX11_laysWay_78 : decode cX11_laysWay 78 = .ok (.aload_n 0, 1) := by decide +kernel
theorem dX11_laysWay_79 : decode cX11_laysWay 79 = .ok (.getfield 45, 3) := by decide +kernel
theorem dX11_laysWay_8 : decode cX11_laysWay 8 = .ok (.bipush 60, 2) := by decide +kernel
theorem dX11_laysWay_82 : decode cX11_laysWay 82 = .ok (.iload 4, 2) := by decide +kernel
theorem dX11_laysWay_84 : decode cX11_laysWay 84 = .ok (.iaload, 1) := by decide +kernel
theorem dX11_laysWay_85 : decode cX11_laysWay 85 = .ok (.iand, 1) := by decide +kernel
theorem dX11_laysWay_86 : decode cX11_laysWay 86 = .ok (.iastore, 1) := by decide +kernel
theorem dX11_laysWay_87 : decode cX11_laysWay 87 = .ok (.iinc 4 (-1), 3) := by decide +kernel
theorem dX11_laysWay_90 : decode cX11_laysWay 90 = .ok (.goto (-36), 3) := by decide +kernel
theorem dX11_laysWay_93 : decode cX11_laysWay 93 = .ok (.iload_n 1, 1) := by decide +kernel
theorem dX11_laysWay_94 : decode cX11_laysWay 94 = .ok (.istore 4, 2) := by decide +kernel
theorem dX11_laysWay_96 : decode cX11_laysWay 96 = .ok (.iconst 0, 1) := by decide +kernel
theorem dX11_laysWay_97 : decode cX11_laysWay 97 = .ok (.istore 5, 2) := by decide +kernel
theorem dX11_laysWay_99 : decode cX11_laysWay 99 = .ok (.iload 5, 2) := by decide +kernel
theorem dX11_safeWay_0 : decode cX11_safeWay 0 = .ok (.aload_n 0, 1) := by decide +kernel
theorem dX11_safeWay_1 : decode cX11_safeWay 1 = .ok (.aload_n 0, 1) := by decide +kernel
theorem dX11_safeWay_10 : decode cX11_safeWay 10 = .ok (.aload_n 0, 1) := by decide +kernel
theorem dX11_safeWay_102 : decode cX11_safeWay 102 = .ok (.iconst (-1), 1) := by decide +kernel
theorem dX11_safeWay_103 : decode cX11_safeWay 103 = .ok (.ireturn, 1) := by decide +kernel
theorem dX11_safeWay_11 : decode cX11_safeWay 11 = .ok (.iload_n 2, 1) := by decide +kernel
theorem dX11_safeWay_12 : decode cX11_safeWay 12 = .ok (.i2l, 1) := by decide +kernel
theorem dX11_safeWay_13 : decode cX11_safeWay 13 = .ok (.invokevirtual 286, 3) := by decide +kernel
theorem dX11_safeWay_16 : decode cX11_safeWay 16 = .ok (.ifCond .ne 7, 3) := by decide +kernel
theorem dX11_safeWay_19 : decode cX11_safeWay 19 = .ok (.iconst 1, 1) := by decide +kernel
theorem dX11_safeWay_2 : decode cX11_safeWay 2 = .ok (.iload_n 1, 1) := by decide +kernel
theorem dX11_safeWay_20 : decode cX11_safeWay 20 = .ok (.goto 26, 3) := by decide +kernel
theorem dX11_safeWay_23 : decode cX11_safeWay 23 = .ok (.iload_n 3, 1) := by decide +kernel
theorem dX11_safeWay_24 : decode cX11_safeWay 24 = .ok (.ifCond .eq 17, 3) := by decide +kernel
theorem dX11_safeWay_27 : decode cX11_safeWay 27 = .ok (.iload_n 3, 1) := by decide +kernel
theorem dX11_safeWay_28 : decode cX11_safeWay 28 = .ok (.i2l, 1) := by decide +kernel
theorem dX11_safeWay_29 : decode cX11_safeWay 29 = .ok (.ldc2_w 403, 3) := by decide +kernel
theorem dX11_safeWay_3 : decode cX11_safeWay 3 = .ok (.i2l, 1) := by decide +kernel
theorem dX11_safeWay_32 : decode cX11_safeWay 32 = .ok (.ldc2_w 502, 3) := by decide +kernel
theorem dX11_safeWay_35 : decode cX11_safeWay 35 = .ok (.invokestatic 131, 3) := by decide +kernel
theorem dX11_safeWay_38 : decode cX11_safeWay 38 = .ok (.ifCond .eq 7, 3) := by decide +kernel
theorem dX11_safeWay_4 : decode cX11_safeWay 4 = .ok (.invokevirtual 286, 3) := by decide +kernel
theorem dX11_safeWay_41 : decode cX11_safeWay 41 = .ok (.iconst 0, 1) := by decide +kernel
theorem dX11_safeWay_42 : decode cX11_safeWay 42 = .ok (.goto 4, 3) := by decide +kernel
theorem dX11_safeWay_45 : decode cX11_safeWay 45 = .ok (.iconst 2, 1) := by decide +kernel
theorem dX11_safeWay_46 : decode cX11_safeWay 46 = .ok (.putfield 70, 3) := by decide +kernel
theorem dX11_safeWay_49 : decode cX11_safeWay 49 = .ok (.aload_n 0, 1) := by decide +kernel
theorem dX11_safeWay_50 : decode cX11_safeWay 50 = .ok (.getfield 70, 3) := by decide +kernel
theorem dX11_safeWay_53 : decode cX11_safeWay 53 = .ok (.ifCond .le 5, 3) := by decide +kernel
theorem dX11_safeWay_56 : decode cX11_safeWay 56 = .ok (.iconst 0, 1) := by decide +kernel
theorem dX11_safeWay_57 : decode cX11_safeWay 57 = .ok (.ireturn, 1) := by decide +kernel
theorem dX11_safeWay_58 : decode cX11_safeWay 58 = .ok (.aload_n 0, 1) := by decide +kernel
theorem dX11_safeWay_59 : decode cX11_safeWay 59 = .ok (.iload_n 1, 1) := by decide +kernel
theorem dX11_safeWay_60 : decode cX11_safeWay 60 = .ok (.iload_n 2, 1) := by decide +kernel
theorem dX11_safeWay_61 : decode cX11_safeWay 61 = .ok (.invokevirtual 504, 3) := by decide +kernel
theorem dX11_safeWay_64 : decode cX11_safeWay 64 = .ok (.istore 4, 2) := by decide +kernel
theorem dX11_safeWay_66 : decode cX11_safeWay 66 = .ok (.iload 4, 2) := by decide +kernel
theorem dX11_safeWay_68 : decode cX11_safeWay 68 = .ok (.iconst (-1), 1) := by decide +kernel
theorem dX11_safeWay_69 : decode cX11_safeWay 69 = .ok (.if_icmp .eq 7, 3) := by decide +kernel
theorem dX11_safeWay_7 : decode cX11_safeWay 7 = .ok (.ifCond .eq 12, 3) := by decide +kernel
theorem dX11_safeWay_72 : decode cX11_safeWay 72 = .ok (.iload_n 3, 1) := by decide +kernel
theorem dX11_safeWay_73 : decode cX11_safeWay 73 = .ok (.ifCond .ne 8, 3) := by decide +kernel
theorem dX11_safeWay_76 : decode cX11_safeWay 76 = .ok (.iload 4, 2) := by decide +kernel
theorem dX11_safeWay_78 : decode cX11_safeWay 78 = .ok (.goto 25, 3) := by decide +kernel
theorem dX11_safeWay_81 : decode cX11_safeWay 81 = .ok (.iload_n 3, 1) := by decide +kernel
theorem dX11_safeWay_82 : decode cX11_safeWay 82 = .ok (.bipush 10, 2) := by decide +kernel
theorem dX11_safeWay_84 : decode cX11_safeWay 84 = .ok (.isub, 1) := by decide +kernel
theorem dX11_safeWay_85 : decode cX11_safeWay 85 = .ok (.iload 4, 2) := by decide +kernel
theorem dX11_safeWay_87 : decode cX11_safeWay 87 = .ok (.if_icmp .gt 15, 3) := by decide +kernel
theorem dX11_safeWay_90 : decode cX11_safeWay 90 = .ok (.aload_n 0, 1) := by decide +kernel
theorem dX11_safeWay_91 : decode cX11_safeWay 91 = .ok (.getfield 51, 3) := by decide +kernel
theorem dX11_safeWay_94 : decode cX11_safeWay 94 = .ok (.iload_n 3, 1) := by decide +kernel
theorem dX11_safeWay_95 : decode cX11_safeWay 95 = .ok (.bipush 10, 2) := by decide +kernel
theorem dX11_safeWay_97 : decode cX11_safeWay 97 = .ok (.isub, 1) := by decide +kernel
theorem dX11_safeWay_98 : decode cX11_safeWay 98 = .ok (.iaload, 1) := by decide +kernel
theorem dX11_safeWay_99 : decode cX11_safeWay 99 = .ok (.goto 4, 3) := by decide +kernel
