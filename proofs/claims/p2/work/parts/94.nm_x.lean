theorem dX11_readAtom_0 : decode cX11_readAtom 0 = .ok (.aload_n 0, 1) := by decide +kernel
theorem dX11_readAtom_1 : decode cX11_readAtom 1 = .ok (.getfield 105, 3) := by decide +kernel
theorem dX11_readAtom_12 : decode cX11_readAtom 12 = .ok (.istore_n 1, 1) := by decide +kernel
theorem dX11_readAtom_13 : decode cX11_readAtom 13 = .ok (.iload_n 1, 1) := by decide +kernel
theorem dX11_readAtom_14 : decode cX11_readAtom 14 = .ok (.iconst (-1), 1) := by decide +kernel
theorem dX11_readAtom_15 : decode cX11_readAtom 15 = .ok (.if_icmp .eq 14, 3) := by decide +kernel
theorem dX11_readAtom_18 : decode cX11_readAtom 18 = .ok (.aload_n 0, 1) := by decide +kernel
theorem dX11_readAtom_19 : decode cX11_readAtom 19 = .ok (.bipush 100, 2) := by decide +kernel
theorem dX11_readAtom_21 : decode cX11_readAtom 21 = .ok (.iload_n 1, 1) := by decide +kernel
theorem dX11_readAtom_22 : decode cX11_readAtom 22 = .ok (.iadd, 1) := by decide +kernel
theorem dX11_readAtom_23 : decode cX11_readAtom 23 = .ok (.invokevirtual 152, 3) := by decide +kernel
theorem dX11_readAtom_26 : decode cX11_readAtom 26 = .ok (.goto 57, 3) := by decide +kernel
theorem dX11_readAtom_29 : decode cX11_readAtom 29 = .ok (.aload_n 0, 1) := by decide +kernel
theorem dX11_readAtom_30 : decode cX11_readAtom 30 = .ok (.bipush 40, 2) := by decide +kernel
theorem dX11_readAtom_32 : decode cX11_readAtom 32 = .ok (.invokevirtual 165, 3) := by decide +kernel
theorem dX11_readAtom_35 : decode cX11_readAtom 35 = .ok (.ifCond .eq 30, 3) := by decide +kernel
theorem dX11_readAtom_38 : decode cX11_readAtom 38 = .ok (.aload_n 0, 1) := by decide +kernel
theorem dX11_readAtom_39 : decode cX11_readAtom 39 = .ok (.invokevirtual 162, 3) := by decide +kernel
theorem dX11_readAtom_4 : decode cX11_readAtom 4 = .ok (.ifCond .eq 4, 3) := by decide +kernel
theorem dX11_readAtom_42 : decode cX11_readAtom 42 = .ok (.aload_n 0, 1) := by decide +kernel
theorem dX11_readAtom_43 : decode cX11_readAtom 43 = .ok (.invokevirtual 174, 3) := by decide +kernel
theorem dX11_readAtom_46 : decode cX11_readAtom 46 = .ok (.aload_n 0, 1) := by decide +kernel
theorem dX11_readAtom_47 : decode cX11_readAtom 47 = .ok (.bipush 41, 2) := by decide +kernel
theorem dX11_readAtom_49 : decode cX11_readAtom 49 = .ok (.invokevirtual 171, 3) := by decide +kernel
theorem dX11_readAtom_52 : decode cX11_readAtom 52 = .ok (.aload_n 0, 1) := by decide +kernel
theorem dX11_readAtom_53 : decode cX11_readAtom 53 = .ok (.dup, 1) := by decide +kernel
theorem dX11_readAtom_54 : decode cX11_readAtom 54 = .ok (.getfield 144, 3) := by decide +kernel
theorem dX11_readAtom_57 : decode cX11_readAtom 57 = .ok (.iconst 1, 1) := by decide +kernel
theorem dX11_readAtom_58 : decode cX11_readAtom 58 = .ok (.isub, 1) := by decide +kernel
theorem dX11_readAtom_59 : decode cX11_readAtom 59 = .ok (.putfield 144, 3) := by decide +kernel
theorem dX11_readAtom_62 : decode cX11_readAtom 62 = .ok (.goto 21, 3) := by decide +kernel
theorem dX11_readAtom_65 : decode cX11_readAtom 65 = .ok (.aload_n 0, 1) := by decide +kernel
theorem dX11_readAtom_66 : decode cX11_readAtom 66 = .ok (.iconst 0, 1) := by decide +kernel
theorem dX11_readAtom_67 : decode cX11_readAtom 67 = .ok (.sipush 999, 3) := by decide +kernel
theorem dX11_readAtom_7 : decode cX11_readAtom 7 = .ok (.return_, 1) := by decide +kernel
theorem dX11_readAtom_70 : decode cX11_readAtom 70 = .ok (.invokevirtual 212, 3) := by decide +kernel
theorem dX11_readAtom_73 : decode cX11_readAtom 73 = .ok (.istore_n 2, 1) := by decide +kernel
theorem dX11_readAtom_74 : decode cX11_readAtom 74 = .ok (.aload_n 0, 1) := by decide +kernel
theorem dX11_readAtom_75 : decode cX11_readAtom 75 = .ok (.sipush 1000, 3) := by decide +kernel
theorem dX11_readAtom_78 : decode cX11_readAtom 78 = .ok (.iload_n 2, 1) := by decide +kernel
theorem dX11_readAtom_79 : decode cX11_readAtom 79 = .ok (.iadd, 1) := by decide +kernel
theorem dX11_readAtom_8 : decode cX11_readAtom 8 = .ok (.aload_n 0, 1) := by decide +kernel
theorem dX11_readAtom_80 : decode cX11_readAtom 80 = .ok (.invokevirtual 152, 3) := by decide +kernel
theorem dX11_readAtom_83 : decode cX11_readAtom 83 = .ok (.return_, 1) := by decide +kernel
theorem dX11_readAtom_9 : decode cX11_readAtom 9 = .ok (.invokevirtual 209, 3) := by decide +kernel
theorem dX11_readBoth_0 : decode cX11_readBoth 0 = .ok (.aload_n 0, 1) := by decide +kernel
theorem dX11_readBoth_1 : decode cX11_readBoth 1 = .ok (.invokevirtual 155, 3) := by decide +kernel
theorem dX11_readBoth_10 : decode cX11_readBoth 10 = .ok (.ifCond .eq 16, 3) := by decide +kernel
theorem dX11_readBoth_13 : decode cX11_readBoth 13 = .ok (.aload_n 0, 1) := by decide +kernel
theorem dX11_readBoth_14 : decode cX11_readBoth 14 = .ok (.invokevirtual 155, 3) := by decide +kernel
theorem dX11_readBoth_17 : decode cX11_readBoth 17 = .ok (.aload_n 0, 1) := by decide +kernel
theorem dX11_readBoth_18 : decode cX11_readBoth 18 = .ok (.bipush 16, 2) := by decide +kernel
theorem dX11_readBoth_20 : decode cX11_readBoth 20 = .ok (.invokevirtual 152, 3) := by decide +kernel
theorem dX11_readBoth_23 : decode cX11_readBoth 23 = .ok (.goto (-19), 3) := by decide +kernel
theorem dX11_readBoth_26 : decode cX11_readBoth 26 = .ok (.return_, 1) := by decide +kernel
theorem dX11_readBoth_4 : decode cX11_readBoth 4 = .ok (.aload_n 0, 1) := by decide +kernel
theorem dX11_readBoth_5 : decode cX11_readBoth 5 = .ok (.ldc 158, 2) := by decide +kernel
theorem dX11_readBoth_7 : decode cX11_readBoth 7 = .ok (.invokevirtual 135, 3) := by decide +kernel
theorem dX11_readSum_0 : decode cX11_readSum 0 = .ok (.aload_n 0, 1) := by decide +kernel
theorem dX11_readSum_1 : decode cX11_readSum 1 = .ok (.invokevirtual 177, 3) := by decide +kernel
theorem dX11_readSum_10 : decode cX11_readSum 10 = .ok (.ifCond .ne 12, 3) := by decide +kernel
theorem dX11_readSum_13 : decode cX11_readSum 13 = .ok (.aload_n 0, 1) := by decide +kernel
theorem dX11_readSum_14 : decode cX11_readSum 14 = .ok (.bipush 45, 2) := by decide +kernel
theorem dX11_readSum_16 : decode cX11_readSum 16 = .ok (.invokevirtual 165, 3) := by decide +kernel
theorem dX11_readSum_19 : decode cX11_readSum 19 = .ok (.ifCond .eq 36, 3) := by decide +kernel
theorem dX11_readSum_22 : decode cX11_readSum 22 = .ok (.aload_n 0, 1) := by decide +kernel
theorem dX11_readSum_23 : decode cX11_readSum 23 = .ok (.getfield 85, 3) := by decide +kernel
theorem dX11_readSum_26 : decode cX11_readSum 26 = .ok (.istore_n 1, 1) := by decide +kernel
theorem dX11_readSum_27 : decode cX11_readSum 27 = .ok (.aload_n 0, 1) := by decide +kernel
theorem dX11_readSum_28 : decode cX11_readSum 28 = .ok (.invokevirtual 124, 3) := by decide +kernel
theorem dX11_readSum_31 : decode cX11_readSum 31 = .ok (.aload_n 0, 1) := by decide +kernel
theorem dX11_readSum_32 : decode cX11_readSum 32 = .ok (.invokevirtual 177, 3) := by decide +kernel
theorem dX11_readSum_35 : decode cX11_readSum 35 = .ok (.aload_n 0, 1) := by decide +kernel
theorem dX11_readSum_36 : decode cX11_readSum 36 = .ok (.iload_n 1, 1) := by decide +kernel
theorem dX11_readSum_37 : decode cX11_readSum 37 = .ok (.bipush 43, 2) := by decide +kernel
theorem dX11_readSum_39 : decode cX11_readSum 39 = .ok (.if_icmp .ne 8, 3) := by decide +kernel
theorem dX11_readSum_4 : decode cX11_readSum 4 = .ok (.aload_n 0, 1) := by decide +kernel
theorem dX11_readSum_42 : decode cX11_readSum 42 = .ok (.bipush 10, 2) := by decide +kernel
theorem dX11_readSum_44 : decode cX11_readSum 44 = .ok (.goto 5, 3) := by decide +kernel
theorem dX11_readSum_47 : decode cX11_readSum 47 = .ok (.bipush 11, 2) := by decide +kernel
theorem dX11_readSum_49 : decode cX11_readSum 49 = .ok (.invokevirtual 152, 3) := by decide +kernel
theorem dX11_readSum_5 : decode cX11_readSum 5 = .ok (.bipush 43, 2) := by decide +kernel
theorem dX11_readSum_52 : decode cX11_readSum 52 = .ok (.goto (-48), 3) := by decide +kernel
theorem dX11_readSum_55 : decode cX11_readSum 55 = .ok (.return_, 1) := by decide +kernel
theorem dX11_readSum_7 : decode cX11_readSum 7 = .ok (.invokevirtual 165, 3) := by decide +kernel
theorem dX11_readTerm_0 : decode cX11_readTerm 0 = .ok (.aload_n 0, 1) := by decide +kernel
theorem dX11_readTerm_1 : decode cX11_readTerm 1 = .ok (.invokevirtual 180, 3) := by decide +kernel
theorem dX11_readTerm_10 : decode cX11_readTerm 10 = .ok (.ifCond .eq 20, 3) := by decide +kernel
theorem dX11_readTerm_13 : decode cX11_readTerm 13 = .ok (.aload_n 0, 1) := by decide +kernel
theorem dX11_readTerm_14 : decode cX11_readTerm 14 = .ok (.invokevirtual 124, 3) := by decide +kernel
theorem dX11_readTerm_17 : decode cX11_readTerm 17 = .ok (.aload_n 0, 1) := by decide +kernel
theorem dX11_readTerm_18 : decode cX11_readTerm 18 = .ok (.invokevirtual 180, 3) := by decide +kernel
theorem dX11_readTerm_21 : decode cX11_readTerm 21 = .ok (.aload_n 0, 1) := by decide +kernel
theorem dX11_readTerm_22 : decode cX11_readTerm 22 = .ok (.bipush 12, 2) := by decide +kernel
theorem dX11_readTerm_24 : decode cX11_readTerm 24 = .ok (.invokevirtual 152, 3) := by decide +kernel
theorem dX11_readTerm_27 : decode cX11_readTerm 27 = .ok (.goto (-23), 3) := by decide +kernel
theorem dX11_readTerm_30 : decode cX11_readTerm 30 = .ok (.return_, 1) := by decide +kernel
theorem dX11_readTerm_4 : decode cX11_readTerm 4 = .ok (.aload_n 0, 1) := by decide +kernel
theorem dX11_readTerm_5 : decode cX11_readTerm 5 = .ok (.bipush 42, 2) := by decide +kernel
theorem dX11_readTerm_7 : decode cX11_readTerm 7 = .ok (.invokevirtual 165, 3) := by decide +kernel
theorem dX11_readTruth_0 : decode cX11_readTruth 0 = .ok (.aload_n 0, 1) := by decide +kernel
theorem dX11_readTruth_1 : decode cX11_readTruth 1 = .ok (.invokevirtual 147, 3) := by decide +kernel
theorem dX11_readTruth_10 : decode cX11_readTruth 10 = .ok (.ifCond .eq 16, 3) := by decide +kernel
theorem dX11_readTruth_13 : decode cX11_readTruth 13 = .ok (.aload_n 0, 1) := by decide +kernel
theorem dX11_readTruth_14 : decode cX11_readTruth 14 = .ok (.invokevirtual 147, 3) := by decide +kernel
theorem dX11_readTruth_17 : decode cX11_readTruth 17 = .ok (.aload_n 0, 1) := by decide +kernel
theorem dX11_readTruth_18 : decode cX11_readTruth 18 = .ok (.bipush 17, 2) := by decide +kernel
theorem dX11_readTruth_20 : decode cX11_readTruth 20 = .ok (.invokevirtual 152, 3) := by decide +kernel
theorem dX11_readTruth_23 : decode cX11_readTruth 23 = .ok (.goto (-19), 3) := by decide +kernel
theorem dX11_readTruth_26 : decode cX11_readTruth 26 = .ok (.return_, 1) := by decide +kernel
theorem dX11_readTruth_4 : decode cX11_readTruth 4 = .ok (.aload_n 0, 1) := by decide +kernel
theorem dX11_readTruth_5 : decode cX11_readTruth 5 = .ok (.ldc 150, 2) := by decide +kernel
theorem dX11_readTruth_7 : decode cX11_readTruth 7 = .ok (.invokevirtual 135, 3) := by decide +kernel
theorem dX11_readUnit_0 : decode cX11_readUnit 0 = .ok (.aload_n 0, 1) := by decide +kernel
theorem dX11_readUnit_1 : decode cX11_readUnit 1 = .ok (.getfield 105, 3) := by decide +kernel
theorem dX11_readUnit_101 : decode cX11_readUnit 101 = .ok (.iload_n 1, 1) := by decide +kernel
theorem dX11_readUnit_102 : decode cX11_readUnit 102 = .ok (.bipush 62, 2) := by decide +kernel
theorem dX11_readUnit_104 : decode cX11_readUnit 104 = .ok (.if_icmp .eq 8, 3) := by decide +kernel
theorem dX11_readUnit_107 : decode cX11_readUnit 107 = .ok (.aload_n 0, 1) := by decide +kernel
theorem dX11_readUnit_108 : decode cX11_readUnit 108 = .ok (.iconst 2, 1) := by decide +kernel
theorem dX11_readUnit_109 : decode cX11_readUnit 109 = .ok (.invokevirtual 127, 3) := by decide +kernel
theorem dX11_readUnit_11 : decode cX11_readUnit 11 = .ok (.invokevirtual 120, 3) := by decide +kernel
theorem dX11_readUnit_112 : decode cX11_readUnit 112 = .ok (.aload_n 0, 1) := by decide +kernel
theorem dX11_readUnit_113 : decode cX11_readUnit 113 = .ok (.getfield 105, 3) := by decide +kernel
theorem dX11_readUnit_116 : decode cX11_readUnit 116 = .ok (.ifCond .ne 7, 3) := by decide +kernel
theorem dX11_readUnit_119 : decode cX11_readUnit 119 = .ok (.aload_n 0, 1) := by decide +kernel
theorem dX11_readUnit_120 : decode cX11_readUnit 120 = .ok (.invokevirtual 124, 3) := by decide +kernel
theorem dX11_readUnit_123 : decode cX11_readUnit 123 = .ok (.aload_n 0, 1) := by decide +kernel
theorem dX11_readUnit_124 : decode cX11_readUnit 124 = .ok (.invokevirtual 174, 3) := by decide +kernel
theorem dX11_readUnit_127 : decode cX11_readUnit 127 = .ok (.aload_n 0, 1) := by decide +kernel
theorem dX11_readUnit_128 : decode cX11_readUnit 128 = .ok (.iload_n 1, 1) := by decide +kernel
theorem dX11_readUnit_129 : decode cX11_readUnit 129 = .ok (.bipush 61, 2) := by decide +kernel
theorem dX11_readUnit_131 : decode cX11_readUnit 131 = .ok (.if_icmp .ne 8, 3) := by decide +kernel
theorem dX11_readUnit_134 : decode cX11_readUnit 134 = .ok (.bipush 13, 2) := by decide +kernel
theorem dX11_readUnit_136 : decode cX11_readUnit 136 = .ok (.goto 16, 3) := by decide +kernel
theorem dX11_readUnit_139 : decode cX11_readUnit 139 = .ok (.iload_n 1, 1) := by decide +kernel
theorem dX11_readUnit_14 : decode cX11_readUnit 14 = .ok (.ifCond .eq 30, 3) := by decide +kernel
theorem dX11_readUnit_140 : decode cX11_readUnit 140 = .ok (.bipush 60, 2) := by decide +kernel
theorem dX11_readUnit_142 : decode cX11_readUnit 142 = .ok (.if_icmp .ne 8, 3) := by decide +kernel
theorem dX11_readUnit_145 : decode cX11_readUnit 145 = .ok (.bipush 14, 2) := by decide +kernel
theorem dX11_readUnit_147 : decode cX11_readUnit 147 = .ok (.goto 5, 3) := by decide +kernel
theorem dX11_readUnit_150 : decode cX11_readUnit 150 = .ok (.bipush 15, 2) := by decide +kernel
theorem dX11_readUnit_152 : decode cX11_readUnit 152 = .ok (.invokevirtual 152, 3) := by decide +kernel
theorem dX11_readUnit_155 : decode cX11_readUnit 155 = .ok (.return_, 1) := by decide +kernel
theorem dX11_readUnit_17 : decode cX11_readUnit 17 = .ok (.aload_n 0, 1) := by decide +kernel
theorem dX11_readUnit_18 : decode cX11_readUnit 18 = .ok (.invokevirtual 162, 3) := by decide +kernel
theorem dX11_readUnit_21 : decode cX11_readUnit 21 = .ok (.aload_n 0, 1) := by decide +kernel
theorem dX11_readUnit_22 : decode cX11_readUnit 22 = .ok (.invokevirtual 155, 3) := by decide +kernel
theorem dX11_readUnit_25 : decode cX11_readUnit 25 = .ok (.aload_n 0, 1) := by decide +kernel
theorem dX11_readUnit_26 : decode cX11_readUnit 26 = .ok (.bipush 18, 2) := by decide +kernel
theorem dX11_readUnit_28 : decode cX11_readUnit 28 = .ok (.invokevirtual 152, 3) := by decide +kernel
theorem dX11_readUnit_31 : decode cX11_readUnit 31 = .ok (.aload_n 0, 1) := by decide +kernel
theorem dX11_readUnit_32 : decode cX11_readUnit 32 = .ok (.dup, 1) := by decide +kernel
theorem dX11_readUnit_33 : decode cX11_readUnit 33 = .ok (.getfield 144, 3) := by decide +kernel
theorem dX11_readUnit_36 : decode cX11_readUnit 36 = .ok (.iconst 1, 1) := by decide +kernel
theorem dX11_readUnit_37 : decode cX11_readUnit 37 = .ok (.isub, 1) := by decide +kernel
theorem dX11_readUnit_38 : decode cX11_readUnit 38 = .ok (.putfield 144, 3) := by decide +kernel
theorem dX11_readUnit_4 : decode cX11_readUnit 4 = .ok (.ifCond .eq 4, 3) := by decide +kernel
theorem dX11_readUnit_41 : decode cX11_readUnit 41 = .ok (.goto 114, 3) := by decide +kernel
theorem dX11_readUnit_44 : decode cX11_readUnit 44 = .ok (.aload_n 0, 1) := by decide +kernel
theorem dX11_readUnit_45 : decode cX11_readUnit 45 = .ok (.bipush 91, 2) := by decide +kernel
theorem dX11_readUnit_47 : decode cX11_readUnit 47 = .ok (.invokevirtual 165, 3) := by decide +kernel
theorem dX11_readUnit_50 : decode cX11_readUnit 50 = .ok (.ifCond .eq 30, 3) := by decide +kernel
theorem dX11_readUnit_53 : decode cX11_readUnit 53 = .ok (.aload_n 0, 1) := by decide +kernel
theorem dX11_readUnit_54 : decode cX11_readUnit 54 = .ok (.invokevirtual 162, 3) := by decide +kernel
theorem dX11_readUnit_57 : decode cX11_readUnit 57 = .ok (.aload_n 0, 1) := by decide +kernel
theorem dX11_readUnit_58 : decode cX11_readUnit 58 = .ok (.invokevirtual 168, 3) := by decide +kernel
theorem dX11_readUnit_61 : decode cX11_readUnit 61 = .ok (.aload_n 0, 1) := by decide +kernel
theorem dX11_readUnit_62 : decode cX11_readUnit 62 = .ok (.bipush 93, 2) := by decide +kernel
theorem dX11_readUnit_64 : decode cX11_readUnit 64 = .ok (.invokevirtual 171, 3) := by decide +kernel
theorem dX11_readUnit_67 : decode cX11_readUnit 67 = .ok (.aload_n 0, 1) := by decide +kernel
theorem dX11_readUnit_68 : decode cX11_readUnit 68 = .ok (.dup, 1) := by decide +kernel
theorem dX11_readUnit_69 : decode cX11_readUnit 69 = .ok (.getfield 144, 3) := by decide +kernel
theorem dX11_readUnit_7 : decode cX11_readUnit 7 = .ok (.return_, 1) := by decide +kernel
theorem dX11_readUnit_72 : decode cX11_readUnit 72 = .ok (.iconst 1, 1) := by decide +kernel
theorem dX11_readUnit_73 : decode cX11_readUnit 73 = .ok (.isub, 1) := by decide +kernel
theorem dX11_readUnit_74 : decode cX11_readUnit 74 = .ok (.putfield 144, 3) := by decide +kernel
theorem dX11_readUnit_77 : decode cX11_readUnit 77 = .ok (.goto 78, 3) := by decide +kernel
theorem dX11_readUnit_8 : decode cX11_readUnit 8 = .ok (.aload_n 0, 1) := by decide +kernel
theorem dX11_readUnit_80 : decode cX11_readUnit 80 = .ok (.aload_n 0, 1) := by decide +kernel
theorem dX11_readUnit_81 : decode cX11_readUnit 81 = .ok (.invokevirtual 174, 3) := by decide +kernel
theorem dX11_readUnit_84 : decode cX11_readUnit 84 = .ok (.aload_n 0, 1) := by decide +kernel
theorem dX11_readUnit_85 : decode cX11_readUnit 85 = .ok (.getfield 85, 3) := by decide +kernel
theorem dX11_readUnit_88 : decode cX11_readUnit 88 = .ok (.istore_n 1, 1) := by decide +kernel
theorem dX11_readUnit_89 : decode cX11_readUnit 89 = .ok (.iload_n 1, 1) := by decide +kernel
theorem dX11_readUnit_9 : decode cX11_readUnit 9 = .ok (.ldc 160, 2) := by decide +kernel
theorem dX11_readUnit_90 : decode cX11_readUnit 90 = .ok (.bipush 61, 2) := by decide +kernel
theorem dX11_readUnit_92 : decode cX11_readUnit 92 = .ok (.if_icmp .eq 20, 3) := by decide +kernel
theorem dX11_readUnit_95 : decode cX11_readUnit 95 = .ok (.iload_n 1, 1) := by decide +kernel
theorem dX11_readUnit_96 : decode cX11_readUnit 96 = .ok (.bipush 60, 2) := by decide +kernel
theorem dX11_readUnit_98 : decode cX11_readUnit 98 = .ok (.if_icmp .eq 14, 3) := by decide +kernel
