theorem dX10_act_0 : decode cX10_act 0 = .ok (.lload_n 1, 1) := by decide +kernel
theorem dX10_act_1 : decode cX10_act 1 = .ok (.l2i, 1) := by decide +kernel
theorem dX10_act_12 : decode cX10_act 12 = .ok (.iconst 1, 1) := by decide +kernel
theorem dX10_act_13 : decode cX10_act 13 = .ok (.iadd, 1) := by decide +kernel
theorem dX10_act_14 : decode cX10_act 14 = .ok (.istore 4, 2) := by decide +kernel
theorem dX10_act_16 : decode cX10_act 16 = .ok (.aload_n 0, 1) := by decide +kernel
theorem dX10_act_17 : decode cX10_act 17 = .ok (.iload 4, 2) := by decide +kernel
theorem dX10_act_19 : decode cX10_act 19 = .ok (.invokevirtual 285, 3) := by decide +kernel
theorem dX10_act_2 : decode cX10_act 2 = .ok (.istore_n 3, 1) := by decide +kernel
theorem dX10_act_22 : decode cX10_act 22 = .ok (.pop, 1) := by decide +kernel
theorem dX10_act_23 : decode cX10_act 23 = .ok (.aload_n 0, 1) := by decide +kernel
theorem dX10_act_24 : decode cX10_act 24 = .ok (.iload 4, 2) := by decide +kernel
theorem dX10_act_26 : decode cX10_act 26 = .ok (.putfield 135, 3) := by decide +kernel
theorem dX10_act_29 : decode cX10_act 29 = .ok (.goto 57, 3) := by decide +kernel
theorem dX10_act_3 : decode cX10_act 3 = .ok (.iload_n 3, 1) := by decide +kernel
theorem dX10_act_32 : decode cX10_act 32 = .ok (.iload_n 3, 1) := by decide +kernel
theorem dX10_act_33 : decode cX10_act 33 = .ok (.sipush 2000, 3) := by decide +kernel
theorem dX10_act_36 : decode cX10_act 36 = .ok (.if_icmp .ne 11, 3) := by decide +kernel
theorem dX10_act_39 : decode cX10_act 39 = .ok (.aload_n 0, 1) := by decide +kernel
theorem dX10_act_4 : decode cX10_act 4 = .ok (.iconst (-1), 1) := by decide +kernel
theorem dX10_act_40 : decode cX10_act 40 = .ok (.invokevirtual 220, 3) := by decide +kernel
theorem dX10_act_43 : decode cX10_act 43 = .ok (.pop, 1) := by decide +kernel
theorem dX10_act_44 : decode cX10_act 44 = .ok (.goto 42, 3) := by decide +kernel
theorem dX10_act_47 : decode cX10_act 47 = .ok (.iload_n 3, 1) := by decide +kernel
theorem dX10_act_48 : decode cX10_act 48 = .ok (.sipush 1000, 3) := by decide +kernel
theorem dX10_act_5 : decode cX10_act 5 = .ok (.if_icmp .ne 27, 3) := by decide +kernel
theorem dX10_act_51 : decode cX10_act 51 = .ok (.if_icmp .lt 15, 3) := by decide +kernel
theorem dX10_act_54 : decode cX10_act 54 = .ok (.aload_n 0, 1) := by decide +kernel
theorem dX10_act_55 : decode cX10_act 55 = .ok (.iload_n 3, 1) := by decide +kernel
theorem dX10_act_56 : decode cX10_act 56 = .ok (.sipush 1000, 3) := by decide +kernel
theorem dX10_act_59 : decode cX10_act 59 = .ok (.isub, 1) := by decide +kernel
theorem dX10_act_60 : decode cX10_act 60 = .ok (.invokevirtual 217, 3) := by decide +kernel
theorem dX10_act_63 : decode cX10_act 63 = .ok (.goto 23, 3) := by decide +kernel
theorem dX10_act_66 : decode cX10_act 66 = .ok (.aload_n 0, 1) := by decide +kernel
theorem dX10_act_67 : decode cX10_act 67 = .ok (.iload_n 3, 1) := by decide +kernel
theorem dX10_act_68 : decode cX10_act 68 = .ok (.bipush 100, 2) := by decide +kernel
theorem dX10_act_70 : decode cX10_act 70 = .ok (.idiv, 1) := by decide +kernel
theorem dX10_act_71 : decode cX10_act 71 = .ok (.iload_n 3, 1) := by decide +kernel
theorem dX10_act_72 : decode cX10_act 72 = .ok (.bipush 10, 2) := by decide +kernel
theorem dX10_act_74 : decode cX10_act 74 = .ok (.idiv, 1) := by decide +kernel
theorem dX10_act_75 : decode cX10_act 75 = .ok (.bipush 10, 2) := by decide +kernel
theorem dX10_act_77 : decode cX10_act 77 = .ok (.irem, 1) := by decide +kernel
theorem dX10_act_78 : decode cX10_act 78 = .ok (.iload_n 3, 1) := by decide +kernel
theorem dX10_act_79 : decode cX10_act 79 = .ok (.bipush 10, 2) := by decide +kernel
theorem dX10_act_8 : decode cX10_act 8 = .ok (.aload_n 0, 1) := by decide +kernel
theorem dX10_act_81 : decode cX10_act 81 = .ok (.irem, 1) := by decide +kernel
theorem dX10_act_82 : decode cX10_act 82 = .ok (.invokevirtual 211, 3) := by decide +kernel
theorem dX10_act_85 : decode cX10_act 85 = .ok (.pop, 1) := by decide +kernel
theorem dX10_act_86 : decode cX10_act 86 = .ok (.return_, 1) := by decide +kernel
theorem dX10_act_9 : decode cX10_act 9 = .ok (.getfield 135, 3) := by decide +kernel
theorem dX10_anyTray_0 : decode cX10_anyTray 0 = .ok (.iload_n 1, 1) := by decide +kernel
theorem dX10_anyTray_1 : decode cX10_anyTray 1 = .ok (.ifCond .lt 8, 3) := by decide +kernel
theorem dX10_anyTray_12 : decode cX10_anyTray 12 = .ok (.dup, 1) := by decide +kernel
theorem dX10_anyTray_13 : decode cX10_anyTray 13 = .ok (.ldc_w 399, 3) := by decide +kernel
theorem dX10_anyTray_16 : decode cX10_anyTray 16 = .ok (.invokespecial 185, 3) := by decide +kernel
theorem dX10_anyTray_19 : decode cX10_anyTray 19 = .ok (.athrow, 1) := by decide +kernel
theorem dX10_anyTray_20 : decode cX10_anyTray 20 = .ok (.aload_n 0, 1) := by decide +kernel
theorem dX10_anyTray_21 : decode cX10_anyTray 21 = .ok (.getfield 32, 3) := by decide +kernel
theorem dX10_anyTray_24 : decode cX10_anyTray 24 = .ok (.iload_n 1, 1) := by decide +kernel
theorem dX10_anyTray_25 : decode cX10_anyTray 25 = .ok (.aaload, 1) := by decide +kernel
theorem dX10_anyTray_26 : decode cX10_anyTray 26 = .ok (.areturn, 1) := by decide +kernel
theorem dX10_anyTray_4 : decode cX10_anyTray 4 = .ok (.iload_n 1, 1) := by decide +kernel
theorem dX10_anyTray_5 : decode cX10_anyTray 5 = .ok (.iconst 4, 1) := by decide +kernel
theorem dX10_anyTray_6 : decode cX10_anyTray 6 = .ok (.if_icmp .lt 14, 3) := by decide +kernel
theorem dX10_anyTray_9 : decode cX10_anyTray 9 = .ok (.new 181, 3) := by decide +kernel
theorem dX10_both_0 : decode cX10_both 0 = .ok (.aload_n 0, 1) := by decide +kernel
theorem dX10_both_1 : decode cX10_both 1 = .ok (.iload_n 1, 1) := by decide +kernel
theorem dX10_both_10 : decode cX10_both 10 = .ok (.aload_n 0, 1) := by decide +kernel
theorem dX10_both_101 : decode cX10_both 101 = .ok (.iastore, 1) := by decide +kernel
theorem dX10_both_102 : decode cX10_both 102 = .ok (.iinc 7 1, 3) := by decide +kernel
theorem dX10_both_105 : decode cX10_both 105 = .ok (.goto (-34), 3) := by decide +kernel
theorem dX10_both_108 : decode cX10_both 108 = .ok (.iconst (-1), 1) := by decide +kernel
theorem dX10_both_109 : decode cX10_both 109 = .ok (.istore 7, 2) := by decide +kernel
theorem dX10_both_11 : decode cX10_both 11 = .ok (.iload_n 3, 1) := by decide +kernel
theorem dX10_both_111 : decode cX10_both 111 = .ok (.iconst (-1), 1) := by decide +kernel
theorem dX10_both_112 : decode cX10_both 112 = .ok (.istore 8, 2) := by decide +kernel
theorem dX10_both_114 : decode cX10_both 114 = .ok (.iconst (-1), 1) := by decide +kernel
theorem dX10_both_115 : decode cX10_both 115 = .ok (.istore 9, 2) := by decide +kernel
theorem dX10_both_117 : decode cX10_both 117 = .ok (.iconst 0, 1) := by decide +kernel
theorem dX10_both_118 : decode cX10_both 118 = .ok (.istore 10, 2) := by decide +kernel
theorem dX10_both_12 : decode cX10_both 12 = .ok (.iload 5, 2) := by decide +kernel
theorem dX10_both_120 : decode cX10_both 120 = .ok (.iload 10, 2) := by decide +kernel
theorem dX10_both_122 : decode cX10_both 122 = .ok (.bipush 60, 2) := by decide +kernel
theorem dX10_both_124 : decode cX10_both 124 = .ok (.if_icmp .gt 72, 3) := by decide +kernel
theorem dX10_both_127 : decode cX10_both 127 = .ok (.aload_n 0, 1) := by decide +kernel
theorem dX10_both_128 : decode cX10_both 128 = .ok (.getfield 71, 3) := by decide +kernel
theorem dX10_both_131 : decode cX10_both 131 = .ok (.aload_n 0, 1) := by decide +kernel
theorem dX10_both_132 : decode cX10_both 132 = .ok (.getfield 57, 3) := by decide +kernel
theorem dX10_both_135 : decode cX10_both 135 = .ok (.iload_n 2, 1) := by decide +kernel
theorem dX10_both_136 : decode cX10_both 136 = .ok (.iload 4, 2) := by decide +kernel
theorem dX10_both_138 : decode cX10_both 138 = .ok (.iload 5, 2) := by decide +kernel
theorem dX10_both_14 : decode cX10_both 14 = .ok (.invokevirtual 163, 3) := by decide +kernel
theorem dX10_both_140 : decode cX10_both 140 = .ok (.iload 10, 2) := by decide +kernel
theorem dX10_both_142 : decode cX10_both 142 = .ok (.invokevirtual 324, 3) := by decide +kernel
theorem dX10_both_145 : decode cX10_both 145 = .ok (.istore 11, 2) := by decide +kernel
theorem dX10_both_147 : decode cX10_both 147 = .ok (.aload_n 0, 1) := by decide +kernel
theorem dX10_both_148 : decode cX10_both 148 = .ok (.iload 11, 2) := by decide +kernel
theorem dX10_both_150 : decode cX10_both 150 = .ok (.invokevirtual 341, 3) := by decide +kernel
theorem dX10_both_153 : decode cX10_both 153 = .ok (.istore 12, 2) := by decide +kernel
theorem dX10_both_155 : decode cX10_both 155 = .ok (.iload 11, 2) := by decide +kernel
theorem dX10_both_157 : decode cX10_both 157 = .ok (.ifCond .lt 33, 3) := by decide +kernel
theorem dX10_both_160 : decode cX10_both 160 = .ok (.iload 12, 2) := by decide +kernel
theorem dX10_both_162 : decode cX10_both 162 = .ok (.ifCond .lt 28, 3) := by decide +kernel
theorem dX10_both_165 : decode cX10_both 165 = .ok (.iload 7, 2) := by decide +kernel
theorem dX10_both_167 : decode cX10_both 167 = .ok (.iconst (-1), 1) := by decide +kernel
theorem dX10_both_168 : decode cX10_both 168 = .ok (.if_icmp .eq 10, 3) := by decide +kernel
theorem dX10_both_17 : decode cX10_both 17 = .ok (.aload_n 0, 1) := by decide +kernel
theorem dX10_both_171 : decode cX10_both 171 = .ok (.iload 11, 2) := by decide +kernel
theorem dX10_both_173 : decode cX10_both 173 = .ok (.iload 7, 2) := by decide +kernel
theorem dX10_both_175 : decode cX10_both 175 = .ok (.if_icmp .ge 15, 3) := by decide +kernel
theorem dX10_both_178 : decode cX10_both 178 = .ok (.iload 11, 2) := by decide +kernel
theorem dX10_both_18 : decode cX10_both 18 = .ok (.iload 4, 2) := by decide +kernel
theorem dX10_both_180 : decode cX10_both 180 = .ok (.istore 7, 2) := by decide +kernel
theorem dX10_both_182 : decode cX10_both 182 = .ok (.iload 12, 2) := by decide +kernel
theorem dX10_both_184 : decode cX10_both 184 = .ok (.istore 8, 2) := by decide +kernel
theorem dX10_both_186 : decode cX10_both 186 = .ok (.iload 10, 2) := by decide +kernel
theorem dX10_both_188 : decode cX10_both 188 = .ok (.istore 9, 2) := by decide +kernel
theorem dX10_both_190 : decode cX10_both 190 = .ok (.iinc 10 1, 3) := by decide +kernel
theorem dX10_both_193 : decode cX10_both 193 = .ok (.goto (-73), 3) := by decide +kernel
theorem dX10_both_196 : decode cX10_both 196 = .ok (.iload 6, 2) := by decide +kernel
theorem dX10_both_198 : decode cX10_both 198 = .ok (.ifCond .ne 6, 3) := by decide +kernel
theorem dX10_both_2 : decode cX10_both 2 = .ok (.invokevirtual 120, 3) := by decide +kernel
theorem dX10_both_20 : decode cX10_both 20 = .ok (.iload 5, 2) := by decide +kernel
theorem dX10_both_201 : decode cX10_both 201 = .ok (.iload 7, 2) := by decide +kernel
theorem dX10_both_203 : decode cX10_both 203 = .ok (.ireturn, 1) := by decide +kernel
theorem dX10_both_204 : decode cX10_both 204 = .ok (.iload 6, 2) := by decide +kernel
theorem dX10_both_206 : decode cX10_both 206 = .ok (.iconst 1, 1) := by decide +kernel
theorem dX10_both_207 : decode cX10_both 207 = .ok (.if_icmp .ne 8, 3) := by decide +kernel
theorem dX10_both_210 : decode cX10_both 210 = .ok (.iload 8, 2) := by decide +kernel
theorem dX10_both_212 : decode cX10_both 212 = .ok (.goto 5, 3) := by decide +kernel
theorem dX10_both_215 : decode cX10_both 215 = .ok (.iload 9, 2) := by decide +kernel
theorem dX10_both_217 : decode cX10_both 217 = .ok (.ireturn, 1) := by decide +kernel
theorem dX10_both_22 : decode cX10_both 22 = .ok (.invokevirtual 163, 3) := by decide +kernel
theorem dX10_both_25 : decode cX10_both 25 = .ok (.aload_n 0, 1) := by decide +kernel
theorem dX10_both_26 : decode cX10_both 26 = .ok (.iload_n 1, 1) := by decide +kernel
theorem dX10_both_27 : decode cX10_both 27 = .ok (.invokevirtual 331, 3) := by decide +kernel
theorem dX10_both_30 : decode cX10_both 30 = .ok (.aload_n 0, 1) := by decide +kernel
theorem dX10_both_31 : decode cX10_both 31 = .ok (.iload_n 2, 1) := by decide +kernel
theorem dX10_both_32 : decode cX10_both 32 = .ok (.invokevirtual 331, 3) := by decide +kernel
theorem dX10_both_35 : decode cX10_both 35 = .ok (.iload_n 1, 1) := by decide +kernel
theorem dX10_both_36 : decode cX10_both 36 = .ok (.iload_n 2, 1) := by decide +kernel
theorem dX10_both_37 : decode cX10_both 37 = .ok (.if_icmp .eq 20, 3) := by decide +kernel
theorem dX10_both_40 : decode cX10_both 40 = .ok (.iload_n 3, 1) := by decide +kernel
theorem dX10_both_41 : decode cX10_both 41 = .ok (.iload 4, 2) := by decide +kernel
theorem dX10_both_43 : decode cX10_both 43 = .ok (.if_icmp .eq 14, 3) := by decide +kernel
theorem dX10_both_46 : decode cX10_both 46 = .ok (.iload 6, 2) := by decide +kernel
theorem dX10_both_48 : decode cX10_both 48 = .ok (.ifCond .lt 9, 3) := by decide +kernel
theorem dX10_both_5 : decode cX10_both 5 = .ok (.aload_n 0, 1) := by decide +kernel
theorem dX10_both_51 : decode cX10_both 51 = .ok (.iload 6, 2) := by decide +kernel
theorem dX10_both_53 : decode cX10_both 53 = .ok (.iconst 2, 1) := by decide +kernel
theorem dX10_both_54 : decode cX10_both 54 = .ok (.if_icmp .le 14, 3) := by decide +kernel
theorem dX10_both_57 : decode cX10_both 57 = .ok (.new 83, 3) := by decide +kernel
theorem dX10_both_6 : decode cX10_both 6 = .ok (.iload_n 2, 1) := by decide +kernel
theorem dX10_both_60 : decode cX10_both 60 = .ok (.dup, 1) := by decide +kernel
theorem dX10_both_61 : decode cX10_both 61 = .ok (.ldc_w 339, 3) := by decide +kernel
theorem dX10_both_64 : decode cX10_both 64 = .ok (.invokespecial 87, 3) := by decide +kernel
theorem dX10_both_67 : decode cX10_both 67 = .ok (.athrow, 1) := by decide +kernel
theorem dX10_both_68 : decode cX10_both 68 = .ok (.iconst 0, 1) := by decide +kernel
theorem dX10_both_69 : decode cX10_both 69 = .ok (.istore 7, 2) := by decide +kernel
theorem dX10_both_7 : decode cX10_both 7 = .ok (.invokevirtual 120, 3) := by decide +kernel
theorem dX10_both_71 : decode cX10_both 71 = .ok (.iload 7, 2) := by decide +kernel
theorem dX10_both_73 : decode cX10_both 73 = .ok (.bipush 60, 2) := by decide +kernel
theorem dX10_both_75 : decode cX10_both 75 = .ok (.if_icmp .gt 33, 3) := by decide +kernel
theorem dX10_both_78 : decode cX10_both 78 = .ok (.aload_n 0, 1) := by decide +kernel
theorem dX10_both_79 : decode cX10_both 79 = .ok (.getfield 26, 3) := by decide +kernel
theorem dX10_both_82 : decode cX10_both 82 = .ok (.iload 7, 2) := by decide +kernel
theorem dX10_both_84 : decode cX10_both 84 = .ok (.aload_n 0, 1) := by decide +kernel
theorem dX10_both_85 : decode cX10_both 85 = .ok (.getfield 71, 3) := by decide +kernel
theorem dX10_both_88 : decode cX10_both 88 = .ok (.aload_n 0, 1) := by decide +kernel
theorem dX10_both_89 : decode cX10_both 89 = .ok (.getfield 57, 3) := by decide +kernel
theorem dX10_both_92 : decode cX10_both 92 = .ok (.iload_n 1, 1) := by decide +kernel
theorem dX10_both_93 : decode cX10_both 93 = .ok (.iload_n 3, 1) := by decide +kernel
theorem dX10_both_94 : decode cX10_both 94 = .ok (.iload 5, 2) := by decide +kernel
theorem dX10_both_96 : decode cX10_both 96 = .ok (.iload 7, 2) := by decide +kernel
theorem dX10_both_98 : decode cX10_both 98 = .ok (.invokevirtual 324, 3) := by decide +kernel
theorem dX10_copy_0 : decode cX10_copy 0 = .ok (.aload_n 0, 1) := by decide +kernel
theorem dX10_copy_1 : decode cX10_copy 1 = .ok (.iload_n 1, 1) := by decide +kernel
theorem dX10_copy_10 : decode cX10_copy 10 = .ok (.aload_n 0, 1) := by decide +kernel
theorem dX10_copy_11 : decode cX10_copy 11 = .ok (.getfield 57, 3) := by decide +kernel
theorem dX10_copy_14 : decode cX10_copy 14 = .ok (.invokevirtual 289, 3) := by decide +kernel
theorem dX10_copy_17 : decode cX10_copy 17 = .ok (.aload_n 2, 1) := by decide +kernel
theorem dX10_copy_18 : decode cX10_copy 18 = .ok (.getfield 243, 3) := by decide +kernel
theorem dX10_copy_2 : decode cX10_copy 2 = .ok (.invokevirtual 236, 3) := by decide +kernel
theorem dX10_copy_21 : decode cX10_copy 21 = .ok (.aload_n 0, 1) := by decide +kernel
theorem dX10_copy_22 : decode cX10_copy 22 = .ok (.getfield 57, 3) := by decide +kernel
theorem dX10_copy_25 : decode cX10_copy 25 = .ok (.getfield 113, 3) := by decide +kernel
theorem dX10_copy_28 : decode cX10_copy 28 = .ok (.getfield 178, 3) := by decide +kernel
theorem dX10_copy_31 : decode cX10_copy 31 = .ok (.invokestatic 363, 3) := by decide +kernel
theorem dX10_copy_34 : decode cX10_copy 34 = .ok (.istore_n 3, 1) := by decide +kernel
theorem dX10_copy_35 : decode cX10_copy 35 = .ok (.iconst 0, 1) := by decide +kernel
theorem dX10_copy_36 : decode cX10_copy 36 = .ok (.istore 4, 2) := by decide +kernel
theorem dX10_copy_38 : decode cX10_copy 38 = .ok (.iload 4, 2) := by decide +kernel
theorem dX10_copy_40 : decode cX10_copy 40 = .ok (.iload_n 3, 1) := by decide +kernel
theorem dX10_copy_41 : decode cX10_copy 41 = .ok (.if_icmp .ge 26, 3) := by decide +kernel
theorem dX10_copy_44 : decode cX10_copy 44 = .ok (.aload_n 2, 1) := by decide +kernel
theorem dX10_copy_45 : decode cX10_copy 45 = .ok (.iload 4, 2) := by decide +kernel
theorem dX10_copy_47 : decode cX10_copy 47 = .ok (.aload_n 0, 1) := by decide +kernel
theorem dX10_copy_48 : decode cX10_copy 48 = .ok (.getfield 71, 3) := by decide +kernel
theorem dX10_copy_5 : decode cX10_copy 5 = .ok (.astore_n 2, 1) := by decide +kernel
theorem dX10_copy_51 : decode cX10_copy 51 = .ok (.iload 4, 2) := by decide +kernel
theorem dX10_copy_53 : decode cX10_copy 53 = .ok (.invokevirtual 292, 3) := by decide +kernel
theorem dX10_copy_56 : decode cX10_copy 56 = .ok (.i2l, 1) := by decide +kernel
theorem dX10_copy_57 : decode cX10_copy 57 = .ok (.invokevirtual 384, 3) := by decide +kernel
theorem dX10_copy_6 : decode cX10_copy 6 = .ok (.aload_n 0, 1) := by decide +kernel
theorem dX10_copy_60 : decode cX10_copy 60 = .ok (.pop2, 1) := by decide +kernel
theorem dX10_copy_61 : decode cX10_copy 61 = .ok (.iinc 4 1, 3) := by decide +kernel
theorem dX10_copy_64 : decode cX10_copy 64 = .ok (.goto (-26), 3) := by decide +kernel
theorem dX10_copy_67 : decode cX10_copy 67 = .ok (.iload_n 3, 1) := by decide +kernel
theorem dX10_copy_68 : decode cX10_copy 68 = .ok (.ireturn, 1) := by decide +kernel
theorem dX10_copy_7 : decode cX10_copy 7 = .ok (.getfield 71, 3) := by decide +kernel
theorem dX10_count_0 : decode cX10_count 0 = .ok (.aload_n 0, 1) := by decide +kernel
theorem dX10_count_1 : decode cX10_count 1 = .ok (.getfield 57, 3) := by decide +kernel
theorem dX10_count_100 : decode cX10_count 100 = .ok (.ireturn, 1) := by decide +kernel
theorem dX10_count_101 : decode cX10_count 101 = .ok (.aload_n 0, 1) := by decide +kernel
theorem dX10_count_102 : decode cX10_count 102 = .ok (.getfield 57, 3) := by decide +kernel
theorem dX10_count_105 : decode cX10_count 105 = .ok (.iconst 1, 1) := by decide +kernel
theorem dX10_count_106 : decode cX10_count 106 = .ok (.invokevirtual 256, 3) := by decide +kernel
theorem dX10_count_109 : decode cX10_count 109 = .ok (.ireturn, 1) := by decide +kernel
theorem dX10_count_110 : decode cX10_count 110 = .ok (.aload_n 0, 1) := by decide +kernel
theorem dX10_count_111 : decode cX10_count 111 = .ok (.getfield 57, 3) := by decide +kernel
theorem dX10_count_114 : decode cX10_count 114 = .ok (.iconst 2, 1) := by decide +kernel
theorem dX10_count_115 : decode cX10_count 115 = .ok (.invokevirtual 256, 3) := by decide +kernel
theorem dX10_count_118 : decode cX10_count 118 = .ok (.ireturn, 1) := by decide +kernel
theorem dX10_count_119 : decode cX10_count 119 = .ok (.aload_n 2, 1) := by decide +kernel
theorem dX10_count_120 : decode cX10_count 120 = .ok (.getfield 186, 3) := by decide +kernel
theorem dX10_count_123 : decode cX10_count 123 = .ok (.ireturn, 1) := by decide +kernel
theorem dX10_count_124 : decode cX10_count 124 = .ok (.aload_n 0, 1) := by decide +kernel
theorem dX10_count_125 : decode cX10_count 125 = .ok (.getfield 57, 3) := by decide +kernel
theorem dX10_count_128 : decode cX10_count 128 = .ok (.getfield 135, 3) := by decide +kernel
theorem dX10_count_131 : decode cX10_count 131 = .ok (.ireturn, 1) := by decide +kernel
theorem dX10_count_132 : decode cX10_count 132 = .ok (.aload_n 0, 1) := by decide +kernel
theorem dX10_count_133 : decode cX10_count 133 = .ok (.getfield 64, 3) := by decide +kernel
theorem dX10_count_136 : decode cX10_count 136 = .ok (.getfield 227, 3) := by decide +kernel
theorem dX10_count_139 : decode cX10_count 139 = .ok (.ireturn, 1) := by decide +kernel
theorem dX10_count_140 : decode cX10_count 140 = .ok (.aload_n 0, 1) := by decide +kernel
theorem dX10_count_141 : decode cX10_count 141 = .ok (.getfield 76, 3) := by decide +kernel
theorem dX10_count_144 : decode cX10_count 144 = .ok (.ireturn, 1) := by decide +kernel
theorem dX10_count_145 : decode cX10_count 145 = .ok (.aload_n 0, 1) := by decide +kernel
theorem dX10_count_146 : decode cX10_count 146 = .ok (.getfield 57, 3) := by decide +kernel
theorem dX10_count_149 : decode cX10_count 149 = .ok (.invokevirtual 259, 3) := by decide +kernel
theorem dX10_count_152 : decode cX10_count 152 = .ok (.ireturn, 1) := by decide +kernel
theorem dX10_count_153 : decode cX10_count 153 = .ok (.iconst (-1), 1) := by decide +kernel
theorem dX10_count_154 : decode cX10_count 154 = .ok (.ireturn, 1) := by decide +kernel
theorem dX10_count_4 : decode cX10_count 4 = .ok (.getfield 113, 3) := by decide +kernel
theorem dX10_count_7 : decode cX10_count 7 = .ok (.astore_n 2, 1) := by decide +kernel
theorem dX10_count_72 : decode cX10_count 72 = .ok (.aload_n 2, 1) := by decide +kernel
theorem dX10_count_73 : decode cX10_count 73 = .ok (.getfield 117, 3) := by decide +kernel
theorem dX10_count_76 : decode cX10_count 76 = .ok (.ireturn, 1) := by decide +kernel
theorem dX10_count_77 : decode cX10_count 77 = .ok (.aload_n 2, 1) := by decide +kernel
theorem dX10_count_78 : decode cX10_count 78 = .ok (.getfield 191, 3) := by decide +kernel
theorem dX10_count_8 : decode cX10_count 8 = .ok (.iload_n 1, 1) := by decide +kernel
theorem dX10_count_81 : decode cX10_count 81 = .ok (.ireturn, 1) := by decide +kernel
theorem dX10_count_82 : decode cX10_count 82 = .ok (.aload_n 2, 1) := by decide +kernel
theorem dX10_count_83 : decode cX10_count 83 = .ok (.getfield 271, 3) := by decide +kernel
theorem dX10_count_86 : decode cX10_count 86 = .ok (.ireturn, 1) := by decide +kernel
theorem dX10_count_87 : decode cX10_count 87 = .ok (.aload_n 2, 1) := by decide +kernel
theorem dX10_count_88 : decode cX10_count 88 = .ok (.getfield 178, 3) := by decide +kernel
theorem dX10_count_9 : decode cX10_count 9 = .ok (.tableswitch 144 0 11 #[63, 68, 73, 78, 83, 92, 101, 110, 115, 123, 131, 136], 63) := by decide +kernel
theorem dX10_count_91 : decode cX10_count 91 = .ok (.ireturn, 1) := by decide +kernel
theorem dX10_count_92 : decode cX10_count 92 = .ok (.aload_n 0, 1) := by decide +kernel
theorem dX10_count_93 : decode cX10_count 93 = .ok (.getfield 57, 3) := by decide +kernel
theorem dX10_count_96 : decode cX10_count 96 = .ok (.iconst 0, 1) := by decide +kernel
theorem dX10_count_97 : decode cX10_count 97 = .ok (.invokevirtual 256, 3) := by decide +kernel
theorem dX10_drawDeed_0 : decode cX10_drawDeed 0 = .ok (.aload_n 0, 1) := by decide +kernel
theorem dX10_drawDeed_1 : decode cX10_drawDeed 1 = .ok (.getfield 57, 3) := by decide +kernel
theorem dX10_drawDeed_10 : decode cX10_drawDeed 10 = .ok (.invokevirtual 268, 3) := by decide +kernel
theorem dX10_drawDeed_13 : decode cX10_drawDeed 13 = .ok (.istore_n 2, 1) := by decide +kernel
theorem dX10_drawDeed_14 : decode cX10_drawDeed 14 = .ok (.iload_n 2, 1) := by decide +kernel
theorem dX10_drawDeed_15 : decode cX10_drawDeed 15 = .ok (.iconst 2, 1) := by decide +kernel
theorem dX10_drawDeed_16 : decode cX10_drawDeed 16 = .ok (.if_icmp .ge 5, 3) := by decide +kernel
theorem dX10_drawDeed_19 : decode cX10_drawDeed 19 = .ok (.iconst (-1), 1) := by decide +kernel
theorem dX10_drawDeed_20 : decode cX10_drawDeed 20 = .ok (.ireturn, 1) := by decide +kernel
theorem dX10_drawDeed_21 : decode cX10_drawDeed 21 = .ok (.aload_n 1, 1) := by decide +kernel
theorem dX10_drawDeed_22 : decode cX10_drawDeed 22 = .ok (.getfield 178, 3) := by decide +kernel
theorem dX10_drawDeed_25 : decode cX10_drawDeed 25 = .ok (.ifCond .ne 7, 3) := by decide +kernel
theorem dX10_drawDeed_28 : decode cX10_drawDeed 28 = .ok (.sipush 800, 3) := by decide +kernel
theorem dX10_drawDeed_31 : decode cX10_drawDeed 31 = .ok (.ireturn, 1) := by decide +kernel
theorem dX10_drawDeed_32 : decode cX10_drawDeed 32 = .ok (.aload_n 0, 1) := by decide +kernel
theorem dX10_drawDeed_33 : decode cX10_drawDeed 33 = .ok (.aload_n 1, 1) := by decide +kernel
theorem dX10_drawDeed_34 : decode cX10_drawDeed 34 = .ok (.getfield 178, 3) := by decide +kernel
theorem dX10_drawDeed_37 : decode cX10_drawDeed 37 = .ok (.invokevirtual 268, 3) := by decide +kernel
theorem dX10_drawDeed_4 : decode cX10_drawDeed 4 = .ok (.getfield 113, 3) := by decide +kernel
theorem dX10_drawDeed_40 : decode cX10_drawDeed 40 = .ok (.istore_n 3, 1) := by decide +kernel
theorem dX10_drawDeed_41 : decode cX10_drawDeed 41 = .ok (.iload_n 2, 1) := by decide +kernel
theorem dX10_drawDeed_42 : decode cX10_drawDeed 42 = .ok (.iconst 3, 1) := by decide +kernel
theorem dX10_drawDeed_43 : decode cX10_drawDeed 43 = .ok (.if_icmp .ne 9, 3) := by decide +kernel
theorem dX10_drawDeed_46 : decode cX10_drawDeed 46 = .ok (.sipush 1000, 3) := by decide +kernel
theorem dX10_drawDeed_49 : decode cX10_drawDeed 49 = .ok (.iload_n 3, 1) := by decide +kernel
theorem dX10_drawDeed_50 : decode cX10_drawDeed 50 = .ok (.iadd, 1) := by decide +kernel
theorem dX10_drawDeed_51 : decode cX10_drawDeed 51 = .ok (.ireturn, 1) := by decide +kernel
theorem dX10_drawDeed_52 : decode cX10_drawDeed 52 = .ok (.aload_n 0, 1) := by decide +kernel
theorem dX10_drawDeed_53 : decode cX10_drawDeed 53 = .ok (.aload_n 1, 1) := by decide +kernel
theorem dX10_drawDeed_54 : decode cX10_drawDeed 54 = .ok (.getfield 191, 3) := by decide +kernel
theorem dX10_drawDeed_57 : decode cX10_drawDeed 57 = .ok (.invokevirtual 268, 3) := by decide +kernel
theorem dX10_drawDeed_60 : decode cX10_drawDeed 60 = .ok (.istore 4, 2) := by decide +kernel
theorem dX10_drawDeed_62 : decode cX10_drawDeed 62 = .ok (.bipush 100, 2) := by decide +kernel
theorem dX10_drawDeed_64 : decode cX10_drawDeed 64 = .ok (.iload_n 3, 1) := by decide +kernel
theorem dX10_drawDeed_65 : decode cX10_drawDeed 65 = .ok (.imul, 1) := by decide +kernel
theorem dX10_drawDeed_66 : decode cX10_drawDeed 66 = .ok (.bipush 10, 2) := by decide +kernel
theorem dX10_drawDeed_68 : decode cX10_drawDeed 68 = .ok (.iload 4, 2) := by decide +kernel
theorem dX10_drawDeed_7 : decode cX10_drawDeed 7 = .ok (.astore_n 1, 1) := by decide +kernel
theorem dX10_drawDeed_70 : decode cX10_drawDeed 70 = .ok (.imul, 1) := by decide +kernel
theorem dX10_drawDeed_71 : decode cX10_drawDeed 71 = .ok (.iadd, 1) := by decide +kernel
theorem dX10_drawDeed_72 : decode cX10_drawDeed 72 = .ok (.aload_n 0, 1) := by decide +kernel
theorem dX10_drawDeed_73 : decode cX10_drawDeed 73 = .ok (.aload_n 1, 1) := by decide +kernel
theorem dX10_drawDeed_74 : decode cX10_drawDeed 74 = .ok (.getfield 271, 3) := by decide +kernel
theorem dX10_drawDeed_77 : decode cX10_drawDeed 77 = .ok (.invokevirtual 268, 3) := by decide +kernel
theorem dX10_drawDeed_8 : decode cX10_drawDeed 8 = .ok (.aload_n 0, 1) := by decide +kernel
theorem dX10_drawDeed_80 : decode cX10_drawDeed 80 = .ok (.iadd, 1) := by decide +kernel
theorem dX10_drawDeed_81 : decode cX10_drawDeed 81 = .ok (.ireturn, 1) := by decide +kernel
theorem dX10_drawDeed_9 : decode cX10_drawDeed 9 = .ok (.iconst 4, 1) := by decide +kernel
theorem dX10_draw_0 : decode cX10_draw 0 = .ok (.aload_n 0, 1) := by decide +kernel
theorem dX10_draw_1 : decode cX10_draw 1 = .ok (.ldc_w 274, 3) := by decide +kernel
theorem dX10_draw_12 : decode cX10_draw 12 = .ok (.iadd, 1) := by decide +kernel
theorem dX10_draw_13 : decode cX10_draw 13 = .ok (.putfield 262, 3) := by decide +kernel
theorem dX10_draw_16 : decode cX10_draw 16 = .ok (.iload_n 1, 1) := by decide +kernel
theorem dX10_draw_17 : decode cX10_draw 17 = .ok (.ifCond .le 15, 3) := by decide +kernel
theorem dX10_draw_20 : decode cX10_draw 20 = .ok (.aload_n 0, 1) := by decide +kernel
theorem dX10_draw_21 : decode cX10_draw 21 = .ok (.getfield 262, 3) := by decide +kernel
theorem dX10_draw_24 : decode cX10_draw 24 = .ok (.bipush 16, 2) := by decide +kernel
theorem dX10_draw_26 : decode cX10_draw 26 = .ok (.iushr, 1) := by decide +kernel
theorem dX10_draw_27 : decode cX10_draw 27 = .ok (.iload_n 1, 1) := by decide +kernel
theorem dX10_draw_28 : decode cX10_draw 28 = .ok (.irem, 1) := by decide +kernel
theorem dX10_draw_29 : decode cX10_draw 29 = .ok (.goto 4, 3) := by decide +kernel
theorem dX10_draw_32 : decode cX10_draw 32 = .ok (.iconst 0, 1) := by decide +kernel
theorem dX10_draw_33 : decode cX10_draw 33 = .ok (.ireturn, 1) := by decide +kernel
theorem dX10_draw_4 : decode cX10_draw 4 = .ok (.aload_n 0, 1) := by decide +kernel
theorem dX10_draw_5 : decode cX10_draw 5 = .ok (.getfield 262, 3) := by decide +kernel
theorem dX10_draw_8 : decode cX10_draw 8 = .ok (.imul, 1) := by decide +kernel
theorem dX10_draw_9 : decode cX10_draw 9 = .ok (.sipush 12345, 3) := by decide +kernel
theorem dX10_filledTray_0 : decode cX10_filledTray 0 = .ok (.aload_n 0, 1) := by decide +kernel
theorem dX10_filledTray_1 : decode cX10_filledTray 1 = .ok (.iload_n 1, 1) := by decide +kernel
theorem dX10_filledTray_10 : decode cX10_filledTray 10 = .ok (.iconst (-1), 1) := by decide +kernel
theorem dX10_filledTray_11 : decode cX10_filledTray 11 = .ok (.if_icmp .ne 14, 3) := by decide +kernel
theorem dX10_filledTray_14 : decode cX10_filledTray 14 = .ok (.new 307, 3) := by decide +kernel
theorem dX10_filledTray_17 : decode cX10_filledTray 17 = .ok (.dup, 1) := by decide +kernel
theorem dX10_filledTray_18 : decode cX10_filledTray 18 = .ok (.ldc_w 404, 3) := by decide +kernel
theorem dX10_filledTray_2 : decode cX10_filledTray 2 = .ok (.invokevirtual 373, 3) := by decide +kernel
theorem dX10_filledTray_21 : decode cX10_filledTray 21 = .ok (.invokespecial 311, 3) := by decide +kernel
theorem dX10_filledTray_24 : decode cX10_filledTray 24 = .ok (.athrow, 1) := by decide +kernel
theorem dX10_filledTray_25 : decode cX10_filledTray 25 = .ok (.aload_n 2, 1) := by decide +kernel
theorem dX10_filledTray_26 : decode cX10_filledTray 26 = .ok (.areturn, 1) := by decide +kernel
theorem dX10_filledTray_5 : decode cX10_filledTray 5 = .ok (.astore_n 2, 1) := by decide +kernel
theorem dX10_filledTray_6 : decode cX10_filledTray 6 = .ok (.aload_n 2, 1) := by decide +kernel
theorem dX10_filledTray_7 : decode cX10_filledTray 7 = .ok (.getfield 401, 3) := by decide +kernel
theorem dX10_firstWaitFor_0 : decode cX10_firstWaitFor 0 = .ok (.iconst 0, 1) := by decide +kernel
theorem dX10_firstWaitFor_1 : decode cX10_firstWaitFor 1 = .ok (.istore_n 2, 1) := by decide +kernel
theorem dX10_firstWaitFor_12 : decode cX10_firstWaitFor 12 = .ok (.iload_n 2, 1) := by decide +kernel
theorem dX10_firstWaitFor_13 : decode cX10_firstWaitFor 13 = .ok (.iaload, 1) := by decide +kernel
theorem dX10_firstWaitFor_14 : decode cX10_firstWaitFor 14 = .ok (.iload_n 1, 1) := by decide +kernel
theorem dX10_firstWaitFor_15 : decode cX10_firstWaitFor 15 = .ok (.if_icmp .ne 5, 3) := by decide +kernel
theorem dX10_firstWaitFor_18 : decode cX10_firstWaitFor 18 = .ok (.iload_n 2, 1) := by decide +kernel
theorem dX10_firstWaitFor_19 : decode cX10_firstWaitFor 19 = .ok (.ireturn, 1) := by decide +kernel
theorem dX10_firstWaitFor_2 : decode cX10_firstWaitFor 2 = .ok (.iload_n 2, 1) := by decide +kernel
theorem dX10_firstWaitFor_20 : decode cX10_firstWaitFor 20 = .ok (.iinc 2 1, 3) := by decide +kernel
theorem dX10_firstWaitFor_23 : decode cX10_firstWaitFor 23 = .ok (.goto (-21), 3) := by decide +kernel
theorem dX10_firstWaitFor_26 : decode cX10_firstWaitFor 26 = .ok (.iconst (-1), 1) := by decide +kernel
theorem dX10_firstWaitFor_27 : decode cX10_firstWaitFor 27 = .ok (.ireturn, 1) := by decide +kernel
theorem dX10_firstWaitFor_3 : decode cX10_firstWaitFor 3 = .ok (.bipush 60, 2) := by decide +kernel
theorem dX10_firstWaitFor_5 : decode cX10_firstWaitFor 5 = .ok (.if_icmp .gt 21, 3) := by decide +kernel
theorem dX10_firstWaitFor_8 : decode cX10_firstWaitFor 8 = .ok (.aload_n 0, 1) := by decide +kernel
theorem dX10_firstWaitFor_9 : decode cX10_firstWaitFor 9 = .ok (.getfield 26, 3) := by decide +kernel
theorem dX10_hours_0 : decode cX10_hours 0 = .ok (.iload_n 1, 1) := by decide +kernel
theorem dX10_hours_1 : decode cX10_hours 1 = .ok (.iconst 1, 1) := by decide +kernel
theorem dX10_hours_11 : decode cX10_hours 11 = .ok (.aload_n 0, 1) := by decide +kernel
theorem dX10_hours_12 : decode cX10_hours 12 = .ok (.getfield 57, 3) := by decide +kernel
theorem dX10_hours_15 : decode cX10_hours 15 = .ok (.invokevirtual 208, 3) := by decide +kernel
theorem dX10_hours_18 : decode cX10_hours 18 = .ok (.aload_n 0, 1) := by decide +kernel
theorem dX10_hours_19 : decode cX10_hours 19 = .ok (.getfield 57, 3) := by decide +kernel
theorem dX10_hours_2 : decode cX10_hours 2 = .ok (.bipush 99, 2) := by decide +kernel
theorem dX10_hours_22 : decode cX10_hours 22 = .ok (.aload_n 0, 1) := by decide +kernel
theorem dX10_hours_23 : decode cX10_hours 23 = .ok (.getfield 57, 3) := by decide +kernel
theorem dX10_hours_26 : decode cX10_hours 26 = .ok (.getfield 135, 3) := by decide +kernel
theorem dX10_hours_29 : decode cX10_hours 29 = .ok (.iload_n 1, 1) := by decide +kernel
theorem dX10_hours_30 : decode cX10_hours 30 = .ok (.iadd, 1) := by decide +kernel
theorem dX10_hours_31 : decode cX10_hours 31 = .ok (.invokevirtual 224, 3) := by decide +kernel
theorem dX10_hours_34 : decode cX10_hours 34 = .ok (.ireturn, 1) := by decide +kernel
theorem dX10_hours_4 : decode cX10_hours 4 = .ok (.invokestatic 170, 3) := by decide +kernel
theorem dX10_hours_7 : decode cX10_hours 7 = .ok (.aload_n 0, 1) := by decide +kernel
theorem dX10_hours_8 : decode cX10_hours 8 = .ok (.getfield 64, 3) := by decide +kernel
theorem dX10_isLetGoBy_0 : decode cX10_isLetGoBy 0 = .ok (.aload_n 0, 1) := by decide +kernel
theorem dX10_isLetGoBy_1 : decode cX10_isLetGoBy 1 = .ok (.getfield 57, 3) := by decide +kernel
theorem dX10_isLetGoBy_10 : decode cX10_isLetGoBy 10 = .ok (.iload_n 1, 1) := by decide +kernel
theorem dX10_isLetGoBy_11 : decode cX10_isLetGoBy 11 = .ok (.iload_n 2, 1) := by decide +kernel
theorem dX10_isLetGoBy_12 : decode cX10_isLetGoBy 12 = .ok (.aload_n 0, 1) := by decide +kernel
theorem dX10_isLetGoBy_13 : decode cX10_isLetGoBy 13 = .ok (.getfield 57, 3) := by decide +kernel
theorem dX10_isLetGoBy_16 : decode cX10_isLetGoBy 16 = .ok (.getfield 135, 3) := by decide +kernel
theorem dX10_isLetGoBy_19 : decode cX10_isLetGoBy 19 = .ok (.iload 4, 2) := by decide +kernel
theorem dX10_isLetGoBy_21 : decode cX10_isLetGoBy 21 = .ok (.isub, 1) := by decide +kernel
theorem dX10_isLetGoBy_22 : decode cX10_isLetGoBy 22 = .ok (.aload_n 0, 1) := by decide +kernel
theorem dX10_isLetGoBy_23 : decode cX10_isLetGoBy 23 = .ok (.getfield 57, 3) := by decide +kernel
theorem dX10_isLetGoBy_26 : decode cX10_isLetGoBy 26 = .ok (.iload_n 1, 1) := by decide +kernel
theorem dX10_isLetGoBy_27 : decode cX10_isLetGoBy 27 = .ok (.invokevirtual 159, 3) := by decide +kernel
theorem dX10_isLetGoBy_30 : decode cX10_isLetGoBy 30 = .ok (.invokevirtual 174, 3) := by decide +kernel
theorem dX10_isLetGoBy_33 : decode cX10_isLetGoBy 33 = .ok (.iload 4, 2) := by decide +kernel
theorem dX10_isLetGoBy_35 : decode cX10_isLetGoBy 35 = .ok (.if_icmp .ne 7, 3) := by decide +kernel
theorem dX10_isLetGoBy_38 : decode cX10_isLetGoBy 38 = .ok (.iconst 1, 1) := by decide +kernel
theorem dX10_isLetGoBy_39 : decode cX10_isLetGoBy 39 = .ok (.goto 4, 3) := by decide +kernel
theorem dX10_isLetGoBy_4 : decode cX10_isLetGoBy 4 = .ok (.getfield 113, 3) := by decide +kernel
theorem dX10_isLetGoBy_42 : decode cX10_isLetGoBy 42 = .ok (.iconst 0, 1) := by decide +kernel
theorem dX10_isLetGoBy_43 : decode cX10_isLetGoBy 43 = .ok (.ireturn, 1) := by decide +kernel
theorem dX10_isLetGoBy_7 : decode cX10_isLetGoBy 7 = .ok (.iload 5, 2) := by decide +kernel
theorem dX10_isLetGoBy_9 : decode cX10_isLetGoBy 9 = .ok (.iload_n 3, 1) := by decide +kernel
theorem dX10_judge_0 : decode cX10_judge 0 = .ok (.aload_n 0, 1) := by decide +kernel
theorem dX10_judge_1 : decode cX10_judge 1 = .ok (.iload_n 1, 1) := by decide +kernel
theorem dX10_judge_12 : decode cX10_judge 12 = .ok (.aload_n 0, 1) := by decide +kernel
theorem dX10_judge_124 : decode cX10_judge 124 = .ok (.iload 5, 2) := by decide +kernel
theorem dX10_judge_126 : decode cX10_judge 126 = .ok (.ireturn, 1) := by decide +kernel
theorem dX10_judge_127 : decode cX10_judge 127 = .ok (.iload 6, 2) := by decide +kernel
theorem dX10_judge_129 : decode cX10_judge 129 = .ok (.ireturn, 1) := by decide +kernel
theorem dX10_judge_13 : decode cX10_judge 13 = .ok (.getfield 71, 3) := by decide +kernel
theorem dX10_judge_130 : decode cX10_judge 130 = .ok (.aload 4, 2) := by decide +kernel
theorem dX10_judge_132 : decode cX10_judge 132 = .ok (.iconst 2, 1) := by decide +kernel
theorem dX10_judge_133 : decode cX10_judge 133 = .ok (.invokevirtual 256, 3) := by decide +kernel
theorem dX10_judge_136 : decode cX10_judge 136 = .ok (.ireturn, 1) := by decide +kernel
theorem dX10_judge_137 : decode cX10_judge 137 = .ok (.aload 4, 2) := by decide +kernel
theorem dX10_judge_139 : decode cX10_judge 139 = .ok (.invokevirtual 259, 3) := by decide +kernel
theorem dX10_judge_142 : decode cX10_judge 142 = .ok (.ireturn, 1) := by decide +kernel
theorem dX10_judge_16 : decode cX10_judge 16 = .ok (.getfield 240, 3) := by decide +kernel
theorem dX10_judge_19 : decode cX10_judge 19 = .ok (.astore 4, 2) := by decide +kernel
theorem dX10_judge_2 : decode cX10_judge 2 = .ok (.invokevirtual 236, 3) := by decide +kernel
theorem dX10_judge_21 : decode cX10_judge 21 = .ok (.aload 4, 2) := by decide +kernel
theorem dX10_judge_23 : decode cX10_judge 23 = .ok (.aload_n 0, 1) := by decide +kernel
theorem dX10_judge_24 : decode cX10_judge 24 = .ok (.getfield 57, 3) := by decide +kernel
theorem dX10_judge_27 : decode cX10_judge 27 = .ok (.invokevirtual 106, 3) := by decide +kernel
theorem dX10_judge_30 : decode cX10_judge 30 = .ok (.iconst (-1), 1) := by decide +kernel
theorem dX10_judge_31 : decode cX10_judge 31 = .ok (.istore 5, 2) := by decide +kernel
theorem dX10_judge_33 : decode cX10_judge 33 = .ok (.iconst 0, 1) := by decide +kernel
theorem dX10_judge_34 : decode cX10_judge 34 = .ok (.istore 6, 2) := by decide +kernel
theorem dX10_judge_36 : decode cX10_judge 36 = .ok (.iconst 0, 1) := by decide +kernel
theorem dX10_judge_37 : decode cX10_judge 37 = .ok (.istore 7, 2) := by decide +kernel
theorem dX10_judge_39 : decode cX10_judge 39 = .ok (.iload 7, 2) := by decide +kernel
theorem dX10_judge_41 : decode cX10_judge 41 = .ok (.aload_n 3, 1) := by decide +kernel
theorem dX10_judge_42 : decode cX10_judge 42 = .ok (.getfield 243, 3) := by decide +kernel
theorem dX10_judge_45 : decode cX10_judge 45 = .ok (.if_icmp .ge 52, 3) := by decide +kernel
theorem dX10_judge_48 : decode cX10_judge 48 = .ok (.iload 6, 2) := by decide +kernel
theorem dX10_judge_5 : decode cX10_judge 5 = .ok (.astore_n 3, 1) := by decide +kernel
theorem dX10_judge_50 : decode cX10_judge 50 = .ok (.ifCond .ne 47, 3) := by decide +kernel
theorem dX10_judge_53 : decode cX10_judge 53 = .ok (.aload 4, 2) := by decide +kernel
theorem dX10_judge_55 : decode cX10_judge 55 = .ok (.aload_n 3, 1) := by decide +kernel
theorem dX10_judge_56 : decode cX10_judge 56 = .ok (.getfield 244, 3) := by decide +kernel
theorem dX10_judge_59 : decode cX10_judge 59 = .ok (.iload 7, 2) := by decide +kernel
theorem dX10_judge_6 : decode cX10_judge 6 = .ok (.iload_n 2, 1) := by decide +kernel
theorem dX10_judge_61 : decode cX10_judge 61 = .ok (.laload, 1) := by decide +kernel
theorem dX10_judge_62 : decode cX10_judge 62 = .ok (.invokestatic 248, 3) := by decide +kernel
theorem dX10_judge_65 : decode cX10_judge 65 = .ok (.istore 6, 2) := by decide +kernel
theorem dX10_judge_67 : decode cX10_judge 67 = .ok (.iload 6, 2) := by decide +kernel
theorem dX10_judge_69 : decode cX10_judge 69 = .ok (.ifCond .eq 10, 3) := by decide +kernel
theorem dX10_judge_7 : decode cX10_judge 7 = .ok (.iconst 0, 1) := by decide +kernel
theorem dX10_judge_72 : decode cX10_judge 72 = .ok (.iload 7, 2) := by decide +kernel
theorem dX10_judge_74 : decode cX10_judge 74 = .ok (.istore 5, 2) := by decide +kernel
theorem dX10_judge_76 : decode cX10_judge 76 = .ok (.goto 15, 3) := by decide +kernel
theorem dX10_judge_79 : decode cX10_judge 79 = .ok (.aload 4, 2) := by decide +kernel
theorem dX10_judge_8 : decode cX10_judge 8 = .ok (.iconst 3, 1) := by decide +kernel
theorem dX10_judge_81 : decode cX10_judge 81 = .ok (.aload_n 3, 1) := by decide +kernel
theorem dX10_judge_82 : decode cX10_judge 82 = .ok (.getfield 244, 3) := by decide +kernel
theorem dX10_judge_85 : decode cX10_judge 85 = .ok (.iload 7, 2) := by decide +kernel
theorem dX10_judge_87 : decode cX10_judge 87 = .ok (.laload, 1) := by decide +kernel
theorem dX10_judge_88 : decode cX10_judge 88 = .ok (.invokestatic 252, 3) := by decide +kernel
theorem dX10_judge_9 : decode cX10_judge 9 = .ok (.invokestatic 170, 3) := by decide +kernel
theorem dX10_judge_91 : decode cX10_judge 91 = .ok (.iinc 7 1, 3) := by decide +kernel
theorem dX10_judge_94 : decode cX10_judge 94 = .ok (.goto (-55), 3) := by decide +kernel
theorem dX10_judge_97 : decode cX10_judge 97 = .ok (.iload_n 2, 1) := by decide +kernel
theorem dX10_judge_98 : decode cX10_judge 98 = .ok (.tableswitch 39 0 2 #[26, 29, 32], 26) := by decide +kernel
theorem dX10_letGoAt_0 : decode cX10_letGoAt 0 = .ok (.aload_n 0, 1) := by decide +kernel
theorem dX10_letGoAt_1 : decode cX10_letGoAt 1 = .ok (.iload_n 1, 1) := by decide +kernel
theorem dX10_letGoAt_10 : decode cX10_letGoAt 10 = .ok (.invokestatic 170, 3) := by decide +kernel
theorem dX10_letGoAt_102 : decode cX10_letGoAt 102 = .ok (.iconst (-1), 1) := by decide +kernel
theorem dX10_letGoAt_103 : decode cX10_letGoAt 103 = .ok (.ireturn, 1) := by decide +kernel
theorem dX10_letGoAt_13 : decode cX10_letGoAt 13 = .ok (.iload 4, 2) := by decide +kernel
theorem dX10_letGoAt_15 : decode cX10_letGoAt 15 = .ok (.iconst 0, 1) := by decide +kernel
theorem dX10_letGoAt_16 : decode cX10_letGoAt 16 = .ok (.ldc_w 372, 3) := by decide +kernel
theorem dX10_letGoAt_19 : decode cX10_letGoAt 19 = .ok (.invokestatic 170, 3) := by decide +kernel
theorem dX10_letGoAt_2 : decode cX10_letGoAt 2 = .ok (.iload_n 2, 1) := by decide +kernel
theorem dX10_letGoAt_22 : decode cX10_letGoAt 22 = .ok (.iconst 0, 1) := by decide +kernel
theorem dX10_letGoAt_23 : decode cX10_letGoAt 23 = .ok (.istore 5, 2) := by decide +kernel
theorem dX10_letGoAt_25 : decode cX10_letGoAt 25 = .ok (.iconst 0, 1) := by decide +kernel
theorem dX10_letGoAt_26 : decode cX10_letGoAt 26 = .ok (.istore 6, 2) := by decide +kernel
theorem dX10_letGoAt_28 : decode cX10_letGoAt 28 = .ok (.iload 6, 2) := by decide +kernel
theorem dX10_letGoAt_3 : decode cX10_letGoAt 3 = .ok (.invokevirtual 163, 3) := by decide +kernel
theorem dX10_letGoAt_30 : decode cX10_letGoAt 30 = .ok (.bipush 60, 2) := by decide +kernel
theorem dX10_letGoAt_32 : decode cX10_letGoAt 32 = .ok (.if_icmp .gt 70, 3) := by decide +kernel
theorem dX10_letGoAt_35 : decode cX10_letGoAt 35 = .ok (.iload 6, 2) := by decide +kernel
theorem dX10_letGoAt_37 : decode cX10_letGoAt 37 = .ok (.aload_n 0, 1) := by decide +kernel
theorem dX10_letGoAt_38 : decode cX10_letGoAt 38 = .ok (.getfield 57, 3) := by decide +kernel
theorem dX10_letGoAt_41 : decode cX10_letGoAt 41 = .ok (.getfield 135, 3) := by decide +kernel
theorem dX10_letGoAt_44 : decode cX10_letGoAt 44 = .ok (.if_icmp .gt 58, 3) := by decide +kernel
theorem dX10_letGoAt_47 : decode cX10_letGoAt 47 = .ok (.iconst 0, 1) := by decide +kernel
theorem dX10_letGoAt_48 : decode cX10_letGoAt 48 = .ok (.istore 7, 2) := by decide +kernel
theorem dX10_letGoAt_50 : decode cX10_letGoAt 50 = .ok (.iload 7, 2) := by decide +kernel
theorem dX10_letGoAt_52 : decode cX10_letGoAt 52 = .ok (.bipush 60, 2) := by decide +kernel
theorem dX10_letGoAt_54 : decode cX10_letGoAt 54 = .ok (.if_icmp .gt 42, 3) := by decide +kernel
theorem dX10_letGoAt_57 : decode cX10_letGoAt 57 = .ok (.aload_n 0, 1) := by decide +kernel
theorem dX10_letGoAt_58 : decode cX10_letGoAt 58 = .ok (.iload_n 1, 1) := by decide +kernel
theorem dX10_letGoAt_59 : decode cX10_letGoAt 59 = .ok (.iload_n 2, 1) := by decide +kernel
theorem dX10_letGoAt_6 : decode cX10_letGoAt 6 = .ok (.iload_n 3, 1) := by decide +kernel
theorem dX10_letGoAt_60 : decode cX10_letGoAt 60 = .ok (.iload_n 3, 1) := by decide +kernel
theorem dX10_letGoAt_61 : decode cX10_letGoAt 61 = .ok (.iload 6, 2) := by decide +kernel
theorem dX10_letGoAt_63 : decode cX10_letGoAt 63 = .ok (.iload 7, 2) := by decide +kernel
theorem dX10_letGoAt_65 : decode cX10_letGoAt 65 = .ok (.invokevirtual 368, 3) := by decide +kernel
theorem dX10_letGoAt_68 : decode cX10_letGoAt 68 = .ok (.ifCond .eq 22, 3) := by decide +kernel
theorem dX10_letGoAt_7 : decode cX10_letGoAt 7 = .ok (.iconst 1, 1) := by decide +kernel
theorem dX10_letGoAt_71 : decode cX10_letGoAt 71 = .ok (.iload 5, 2) := by decide +kernel
theorem dX10_letGoAt_73 : decode cX10_letGoAt 73 = .ok (.iload 4, 2) := by decide +kernel
theorem dX10_letGoAt_75 : decode cX10_letGoAt 75 = .ok (.if_icmp .ne 12, 3) := by decide +kernel
theorem dX10_letGoAt_78 : decode cX10_letGoAt 78 = .ok (.bipush 100, 2) := by decide +kernel
theorem dX10_letGoAt_8 : decode cX10_letGoAt 8 = .ok (.bipush 99, 2) := by decide +kernel
theorem dX10_letGoAt_80 : decode cX10_letGoAt 80 = .ok (.iload 6, 2) := by decide +kernel
theorem dX10_letGoAt_82 : decode cX10_letGoAt 82 = .ok (.imul, 1) := by decide +kernel
theorem dX10_letGoAt_83 : decode cX10_letGoAt 83 = .ok (.iload 7, 2) := by decide +kernel
theorem dX10_letGoAt_85 : decode cX10_letGoAt 85 = .ok (.iadd, 1) := by decide +kernel
theorem dX10_letGoAt_86 : decode cX10_letGoAt 86 = .ok (.ireturn, 1) := by decide +kernel
theorem dX10_letGoAt_87 : decode cX10_letGoAt 87 = .ok (.iinc 5 1, 3) := by decide +kernel
theorem dX10_letGoAt_90 : decode cX10_letGoAt 90 = .ok (.iinc 7 1, 3) := by decide +kernel
theorem dX10_letGoAt_93 : decode cX10_letGoAt 93 = .ok (.goto (-43), 3) := by decide +kernel
theorem dX10_letGoAt_96 : decode cX10_letGoAt 96 = .ok (.iinc 6 1, 3) := by decide +kernel
theorem dX10_letGoAt_99 : decode cX10_letGoAt 99 = .ok (.goto (-71), 3) := by decide +kernel
theorem dX10_letGoBy_0 : decode cX10_letGoBy 0 = .ok (.aload_n 0, 1) := by decide +kernel
theorem dX10_letGoBy_1 : decode cX10_letGoBy 1 = .ok (.iload_n 1, 1) := by decide +kernel
theorem dX10_letGoBy_10 : decode cX10_letGoBy 10 = .ok (.invokestatic 170, 3) := by decide +kernel
theorem dX10_letGoBy_13 : decode cX10_letGoBy 13 = .ok (.iconst 0, 1) := by decide +kernel
theorem dX10_letGoBy_14 : decode cX10_letGoBy 14 = .ok (.istore 4, 2) := by decide +kernel
theorem dX10_letGoBy_16 : decode cX10_letGoBy 16 = .ok (.iconst 0, 1) := by decide +kernel
theorem dX10_letGoBy_17 : decode cX10_letGoBy 17 = .ok (.istore 5, 2) := by decide +kernel
theorem dX10_letGoBy_19 : decode cX10_letGoBy 19 = .ok (.iload 5, 2) := by decide +kernel
theorem dX10_letGoBy_2 : decode cX10_letGoBy 2 = .ok (.iload_n 2, 1) := by decide +kernel
theorem dX10_letGoBy_21 : decode cX10_letGoBy 21 = .ok (.bipush 60, 2) := by decide +kernel
theorem dX10_letGoBy_23 : decode cX10_letGoBy 23 = .ok (.if_icmp .gt 54, 3) := by decide +kernel
theorem dX10_letGoBy_26 : decode cX10_letGoBy 26 = .ok (.iload 5, 2) := by decide +kernel
theorem dX10_letGoBy_28 : decode cX10_letGoBy 28 = .ok (.aload_n 0, 1) := by decide +kernel
theorem dX10_letGoBy_29 : decode cX10_letGoBy 29 = .ok (.getfield 57, 3) := by decide +kernel
theorem dX10_letGoBy_3 : decode cX10_letGoBy 3 = .ok (.invokevirtual 163, 3) := by decide +kernel
theorem dX10_letGoBy_32 : decode cX10_letGoBy 32 = .ok (.getfield 135, 3) := by decide +kernel
theorem dX10_letGoBy_35 : decode cX10_letGoBy 35 = .ok (.if_icmp .gt 42, 3) := by decide +kernel
theorem dX10_letGoBy_38 : decode cX10_letGoBy 38 = .ok (.iconst 0, 1) := by decide +kernel
theorem dX10_letGoBy_39 : decode cX10_letGoBy 39 = .ok (.istore 6, 2) := by decide +kernel
theorem dX10_letGoBy_41 : decode cX10_letGoBy 41 = .ok (.iload 6, 2) := by decide +kernel
theorem dX10_letGoBy_43 : decode cX10_letGoBy 43 = .ok (.bipush 60, 2) := by decide +kernel
theorem dX10_letGoBy_45 : decode cX10_letGoBy 45 = .ok (.if_icmp .gt 26, 3) := by decide +kernel
theorem dX10_letGoBy_48 : decode cX10_letGoBy 48 = .ok (.aload_n 0, 1) := by decide +kernel
theorem dX10_letGoBy_49 : decode cX10_letGoBy 49 = .ok (.iload_n 1, 1) := by decide +kernel
theorem dX10_letGoBy_50 : decode cX10_letGoBy 50 = .ok (.iload_n 2, 1) := by decide +kernel
theorem dX10_letGoBy_51 : decode cX10_letGoBy 51 = .ok (.iload_n 3, 1) := by decide +kernel
theorem dX10_letGoBy_52 : decode cX10_letGoBy 52 = .ok (.iload 5, 2) := by decide +kernel
theorem dX10_letGoBy_54 : decode cX10_letGoBy 54 = .ok (.iload 6, 2) := by decide +kernel
theorem dX10_letGoBy_56 : decode cX10_letGoBy 56 = .ok (.invokevirtual 368, 3) := by decide +kernel
theorem dX10_letGoBy_59 : decode cX10_letGoBy 59 = .ok (.ifCond .eq 6, 3) := by decide +kernel
theorem dX10_letGoBy_6 : decode cX10_letGoBy 6 = .ok (.iload_n 3, 1) := by decide +kernel
theorem dX10_letGoBy_62 : decode cX10_letGoBy 62 = .ok (.iinc 4 1, 3) := by decide +kernel
theorem dX10_letGoBy_65 : decode cX10_letGoBy 65 = .ok (.iinc 6 1, 3) := by decide +kernel
theorem dX10_letGoBy_68 : decode cX10_letGoBy 68 = .ok (.goto (-27), 3) := by decide +kernel
theorem dX10_letGoBy_7 : decode cX10_letGoBy 7 = .ok (.iconst 1, 1) := by decide +kernel
theorem dX10_letGoBy_71 : decode cX10_letGoBy 71 = .ok (.iinc 5 1, 3) := by decide +kernel
theorem dX10_letGoBy_74 : decode cX10_letGoBy 74 = .ok (.goto (-55), 3) := by decide +kernel
theorem dX10_letGoBy_77 : decode cX10_letGoBy 77 = .ok (.iload 4, 2) := by decide +kernel
theorem dX10_letGoBy_79 : decode cX10_letGoBy 79 = .ok (.ireturn, 1) := by decide +kernel
theorem dX10_letGoBy_8 : decode cX10_letGoBy 8 = .ok (.bipush 99, 2) := by decide +kernel
theorem dX10_letGo_0 : decode cX10_letGo 0 = .ok (.aload_n 0, 1) := by decide +kernel
theorem dX10_letGo_1 : decode cX10_letGo 1 = .ok (.getfield 57, 3) := by decide +kernel
theorem dX10_letGo_10 : decode cX10_letGo 10 = .ok (.istore 4, 2) := by decide +kernel
theorem dX10_letGo_12 : decode cX10_letGo 12 = .ok (.iload 4, 2) := by decide +kernel
theorem dX10_letGo_14 : decode cX10_letGo 14 = .ok (.ifCond .eq 7, 3) := by decide +kernel
theorem dX10_letGo_17 : decode cX10_letGo 17 = .ok (.iload 4, 2) := by decide +kernel
theorem dX10_letGo_19 : decode cX10_letGo 19 = .ok (.ineg, 1) := by decide +kernel
theorem dX10_letGo_20 : decode cX10_letGo 20 = .ok (.ireturn, 1) := by decide +kernel
theorem dX10_letGo_21 : decode cX10_letGo 21 = .ok (.aload_n 0, 1) := by decide +kernel
theorem dX10_letGo_22 : decode cX10_letGo 22 = .ok (.getfield 64, 3) := by decide +kernel
theorem dX10_letGo_25 : decode cX10_letGo 25 = .ok (.aload_n 0, 1) := by decide +kernel
theorem dX10_letGo_26 : decode cX10_letGo 26 = .ok (.getfield 57, 3) := by decide +kernel
theorem dX10_letGo_29 : decode cX10_letGo 29 = .ok (.invokevirtual 208, 3) := by decide +kernel
theorem dX10_letGo_32 : decode cX10_letGo 32 = .ok (.aload_n 0, 1) := by decide +kernel
theorem dX10_letGo_33 : decode cX10_letGo 33 = .ok (.getfield 57, 3) := by decide +kernel
theorem dX10_letGo_36 : decode cX10_letGo 36 = .ok (.iload_n 1, 1) := by decide +kernel
theorem dX10_letGo_37 : decode cX10_letGo 37 = .ok (.iload_n 2, 1) := by decide +kernel
theorem dX10_letGo_38 : decode cX10_letGo 38 = .ok (.iload_n 3, 1) := by decide +kernel
theorem dX10_letGo_39 : decode cX10_letGo 39 = .ok (.invokevirtual 211, 3) := by decide +kernel
theorem dX10_letGo_4 : decode cX10_letGo 4 = .ok (.iload_n 1, 1) := by decide +kernel
theorem dX10_letGo_42 : decode cX10_letGo 42 = .ok (.ireturn, 1) := by decide +kernel
theorem dX10_letGo_5 : decode cX10_letGo 5 = .ok (.iload_n 2, 1) := by decide +kernel
theorem dX10_letGo_6 : decode cX10_letGo 6 = .ok (.iload_n 3, 1) := by decide +kernel
theorem dX10_letGo_7 : decode cX10_letGo 7 = .ok (.invokevirtual 204, 3) := by decide +kernel
theorem dX10_levels_0 : decode cX10_levels 0 = .ok (.aload_n 0, 1) := by decide +kernel
theorem dX10_levels_1 : decode cX10_levels 1 = .ok (.iload_n 1, 1) := by decide +kernel
theorem dX10_levels_12 : decode cX10_levels 12 = .ok (.iload_n 3, 1) := by decide +kernel
theorem dX10_levels_13 : decode cX10_levels 13 = .ok (.iconst 0, 1) := by decide +kernel
theorem dX10_levels_14 : decode cX10_levels 14 = .ok (.bipush 60, 2) := by decide +kernel
theorem dX10_levels_16 : decode cX10_levels 16 = .ok (.aload_n 0, 1) := by decide +kernel
theorem dX10_levels_17 : decode cX10_levels 17 = .ok (.getfield 57, 3) := by decide +kernel
theorem dX10_levels_2 : decode cX10_levels 2 = .ok (.invokevirtual 156, 3) := by decide +kernel
theorem dX10_levels_20 : decode cX10_levels 20 = .ok (.getfield 135, 3) := by decide +kernel
theorem dX10_levels_23 : decode cX10_levels 23 = .ok (.invokestatic 363, 3) := by decide +kernel
theorem dX10_levels_26 : decode cX10_levels 26 = .ok (.invokestatic 170, 3) := by decide +kernel
theorem dX10_levels_29 : decode cX10_levels 29 = .ok (.iload 4, 2) := by decide +kernel
theorem dX10_levels_31 : decode cX10_levels 31 = .ok (.iconst 0, 1) := by decide +kernel
theorem dX10_levels_32 : decode cX10_levels 32 = .ok (.bipush 60, 2) := by decide +kernel
theorem dX10_levels_34 : decode cX10_levels 34 = .ok (.invokestatic 170, 3) := by decide +kernel
theorem dX10_levels_37 : decode cX10_levels 37 = .ok (.iconst 0, 1) := by decide +kernel
theorem dX10_levels_38 : decode cX10_levels 38 = .ok (.istore 5, 2) := by decide +kernel
theorem dX10_levels_40 : decode cX10_levels 40 = .ok (.iconst 0, 1) := by decide +kernel
theorem dX10_levels_41 : decode cX10_levels 41 = .ok (.istore 6, 2) := by decide +kernel
theorem dX10_levels_43 : decode cX10_levels 43 = .ok (.iload 6, 2) := by decide +kernel
theorem dX10_levels_45 : decode cX10_levels 45 = .ok (.aload_n 0, 1) := by decide +kernel
theorem dX10_levels_46 : decode cX10_levels 46 = .ok (.getfield 57, 3) := by decide +kernel
theorem dX10_levels_49 : decode cX10_levels 49 = .ok (.getfield 113, 3) := by decide +kernel
theorem dX10_levels_5 : decode cX10_levels 5 = .ok (.iload_n 2, 1) := by decide +kernel
theorem dX10_levels_52 : decode cX10_levels 52 = .ok (.getfield 271, 3) := by decide +kernel
theorem dX10_levels_55 : decode cX10_levels 55 = .ok (.if_icmp .ge 32, 3) := by decide +kernel
theorem dX10_levels_58 : decode cX10_levels 58 = .ok (.aload_n 0, 1) := by decide +kernel
theorem dX10_levels_59 : decode cX10_levels 59 = .ok (.iload_n 1, 1) := by decide +kernel
theorem dX10_levels_6 : decode cX10_levels 6 = .ok (.iconst 1, 1) := by decide +kernel
theorem dX10_levels_60 : decode cX10_levels 60 = .ok (.iload 6, 2) := by decide +kernel
theorem dX10_levels_62 : decode cX10_levels 62 = .ok (.iload_n 2, 1) := by decide +kernel
theorem dX10_levels_63 : decode cX10_levels 63 = .ok (.iload_n 3, 1) := by decide +kernel
theorem dX10_levels_64 : decode cX10_levels 64 = .ok (.iload 4, 2) := by decide +kernel
theorem dX10_levels_66 : decode cX10_levels 66 = .ok (.invokevirtual 368, 3) := by decide +kernel
theorem dX10_levels_69 : decode cX10_levels 69 = .ok (.ifCond .eq 12, 3) := by decide +kernel
theorem dX10_levels_7 : decode cX10_levels 7 = .ok (.bipush 99, 2) := by decide +kernel
theorem dX10_levels_72 : decode cX10_levels 72 = .ok (.iload 5, 2) := by decide +kernel
theorem dX10_levels_74 : decode cX10_levels 74 = .ok (.iconst 1, 1) := by decide +kernel
theorem dX10_levels_75 : decode cX10_levels 75 = .ok (.iload 6, 2) := by decide +kernel
theorem dX10_levels_77 : decode cX10_levels 77 = .ok (.ishl, 1) := by decide +kernel
theorem dX10_levels_78 : decode cX10_levels 78 = .ok (.ior, 1) := by decide +kernel
theorem dX10_levels_79 : decode cX10_levels 79 = .ok (.istore 5, 2) := by decide +kernel
theorem dX10_levels_81 : decode cX10_levels 81 = .ok (.iinc 6 1, 3) := by decide +kernel
theorem dX10_levels_84 : decode cX10_levels 84 = .ok (.goto (-41), 3) := by decide +kernel
theorem dX10_levels_87 : decode cX10_levels 87 = .ok (.iload 5, 2) := by decide +kernel
theorem dX10_levels_89 : decode cX10_levels 89 = .ok (.ireturn, 1) := by decide +kernel
theorem dX10_levels_9 : decode cX10_levels 9 = .ok (.invokestatic 170, 3) := by decide +kernel
theorem dX10_needImage_0 : decode cX10_needImage 0 = .ok (.iload_n 0, 1) := by decide +kernel
theorem dX10_needImage_1 : decode cX10_needImage 1 = .ok (.ifCond .lt 8, 3) := by decide +kernel
theorem dX10_needImage_12 : decode cX10_needImage 12 = .ok (.dup, 1) := by decide +kernel
theorem dX10_needImage_13 : decode cX10_needImage 13 = .ok (.ldc_w 406, 3) := by decide +kernel
theorem dX10_needImage_16 : decode cX10_needImage 16 = .ok (.invokespecial 185, 3) := by decide +kernel
theorem dX10_needImage_19 : decode cX10_needImage 19 = .ok (.athrow, 1) := by decide +kernel
theorem dX10_needImage_20 : decode cX10_needImage 20 = .ok (.return_, 1) := by decide +kernel
theorem dX10_needImage_4 : decode cX10_needImage 4 = .ok (.iload_n 0, 1) := by decide +kernel
theorem dX10_needImage_5 : decode cX10_needImage 5 = .ok (.iconst 3, 1) := by decide +kernel
theorem dX10_needImage_6 : decode cX10_needImage 6 = .ok (.if_icmp .lt 14, 3) := by decide +kernel
theorem dX10_needImage_9 : decode cX10_needImage 9 = .ok (.new 181, 3) := by decide +kernel
theorem dX10_perform_0 : decode cX10_perform 0 = .ok (.aload_n 0, 1) := by decide +kernel
theorem dX10_perform_1 : decode cX10_perform 1 = .ok (.iload_n 1, 1) := by decide +kernel
theorem dX10_perform_11 : decode cX10_perform 11 = .ok (.iload 4, 2) := by decide +kernel
theorem dX10_perform_13 : decode cX10_perform 13 = .ok (.aload_n 2, 1) := by decide +kernel
theorem dX10_perform_14 : decode cX10_perform 14 = .ok (.getfield 243, 3) := by decide +kernel
theorem dX10_perform_17 : decode cX10_perform 17 = .ok (.if_icmp .ge 57, 3) := by decide +kernel
theorem dX10_perform_2 : decode cX10_perform 2 = .ok (.invokevirtual 236, 3) := by decide +kernel
theorem dX10_perform_20 : decode cX10_perform 20 = .ok (.aload_n 0, 1) := by decide +kernel
theorem dX10_perform_21 : decode cX10_perform 21 = .ok (.getfield 57, 3) := by decide +kernel
theorem dX10_perform_24 : decode cX10_perform 24 = .ok (.aload_n 2, 1) := by decide +kernel
theorem dX10_perform_25 : decode cX10_perform 25 = .ok (.getfield 244, 3) := by decide +kernel
theorem dX10_perform_28 : decode cX10_perform 28 = .ok (.iload 4, 2) := by decide +kernel
theorem dX10_perform_30 : decode cX10_perform 30 = .ok (.laload, 1) := by decide +kernel
theorem dX10_perform_31 : decode cX10_perform 31 = .ok (.invokestatic 248, 3) := by decide +kernel
theorem dX10_perform_34 : decode cX10_perform 34 = .ok (.ifCond .eq 6, 3) := by decide +kernel
theorem dX10_perform_37 : decode cX10_perform 37 = .ok (.goto 37, 3) := by decide +kernel
theorem dX10_perform_40 : decode cX10_perform 40 = .ok (.aload_n 0, 1) := by decide +kernel
theorem dX10_perform_41 : decode cX10_perform 41 = .ok (.getfield 64, 3) := by decide +kernel
theorem dX10_perform_44 : decode cX10_perform 44 = .ok (.aload_n 0, 1) := by decide +kernel
theorem dX10_perform_45 : decode cX10_perform 45 = .ok (.getfield 57, 3) := by decide +kernel
theorem dX10_perform_48 : decode cX10_perform 48 = .ok (.invokevirtual 208, 3) := by decide +kernel
theorem dX10_perform_5 : decode cX10_perform 5 = .ok (.astore_n 2, 1) := by decide +kernel
theorem dX10_perform_51 : decode cX10_perform 51 = .ok (.aload_n 0, 1) := by decide +kernel
theorem dX10_perform_52 : decode cX10_perform 52 = .ok (.getfield 57, 3) := by decide +kernel
theorem dX10_perform_55 : decode cX10_perform 55 = .ok (.aload_n 2, 1) := by decide +kernel
theorem dX10_perform_56 : decode cX10_perform 56 = .ok (.getfield 244, 3) := by decide +kernel
theorem dX10_perform_59 : decode cX10_perform 59 = .ok (.iload 4, 2) := by decide +kernel
theorem dX10_perform_6 : decode cX10_perform 6 = .ok (.iconst 0, 1) := by decide +kernel
theorem dX10_perform_61 : decode cX10_perform 61 = .ok (.laload, 1) := by decide +kernel
theorem dX10_perform_62 : decode cX10_perform 62 = .ok (.invokestatic 252, 3) := by decide +kernel
theorem dX10_perform_65 : decode cX10_perform 65 = .ok (.iinc 3 1, 3) := by decide +kernel
theorem dX10_perform_68 : decode cX10_perform 68 = .ok (.iinc 4 1, 3) := by decide +kernel
theorem dX10_perform_7 : decode cX10_perform 7 = .ok (.istore_n 3, 1) := by decide +kernel
theorem dX10_perform_71 : decode cX10_perform 71 = .ok (.goto (-60), 3) := by decide +kernel
theorem dX10_perform_74 : decode cX10_perform 74 = .ok (.iload_n 3, 1) := by decide +kernel
theorem dX10_perform_75 : decode cX10_perform 75 = .ok (.ireturn, 1) := by decide +kernel
theorem dX10_perform_8 : decode cX10_perform 8 = .ok (.iconst 0, 1) := by decide +kernel
theorem dX10_perform_9 : decode cX10_perform 9 = .ok (.istore 4, 2) := by decide +kernel
theorem dX10_place_0 : decode cX10_place 0 = .ok (.aload_n 0, 1) := by decide +kernel
theorem dX10_place_1 : decode cX10_place 1 = .ok (.iload_n 1, 1) := by decide +kernel
theorem dX10_place_10 : decode cX10_place 10 = .ok (.iconst (-1), 1) := by decide +kernel
theorem dX10_place_100 : decode cX10_place 100 = .ok (.iconst 0, 1) := by decide +kernel
theorem dX10_place_101 : decode cX10_place 101 = .ok (.istore 8, 2) := by decide +kernel
theorem dX10_place_103 : decode cX10_place 103 = .ok (.iload 7, 2) := by decide +kernel
theorem dX10_place_105 : decode cX10_place 105 = .ok (.ifCond .lt 21, 3) := by decide +kernel
theorem dX10_place_108 : decode cX10_place 108 = .ok (.iload 8, 2) := by decide +kernel
theorem dX10_place_11 : decode cX10_place 11 = .ok (.istore_n 3, 1) := by decide +kernel
theorem dX10_place_110 : decode cX10_place 110 = .ok (.ifCond .eq 16, 3) := by decide +kernel
theorem dX10_place_113 : decode cX10_place 113 = .ok (.bipush 10, 2) := by decide +kernel
theorem dX10_place_115 : decode cX10_place 115 = .ok (.iload 5, 2) := by decide +kernel
theorem dX10_place_117 : decode cX10_place 117 = .ok (.imul, 1) := by decide +kernel
theorem dX10_place_118 : decode cX10_place 118 = .ok (.iload 6, 2) := by decide +kernel
theorem dX10_place_12 : decode cX10_place 12 = .ok (.iconst 0, 1) := by decide +kernel
theorem dX10_place_120 : decode cX10_place 120 = .ok (.iadd, 1) := by decide +kernel
theorem dX10_place_121 : decode cX10_place 121 = .ok (.istore_n 3, 1) := by decide +kernel
theorem dX10_place_122 : decode cX10_place 122 = .ok (.iload 7, 2) := by decide +kernel
theorem dX10_place_124 : decode cX10_place 124 = .ok (.istore 4, 2) := by decide +kernel
theorem dX10_place_126 : decode cX10_place 126 = .ok (.iinc 6 1, 3) := by decide +kernel
theorem dX10_place_129 : decode cX10_place 129 = .ok (.goto (-93), 3) := by decide +kernel
theorem dX10_place_13 : decode cX10_place 13 = .ok (.istore 4, 2) := by decide +kernel
theorem dX10_place_132 : decode cX10_place 132 = .ok (.iinc 5 1, 3) := by decide +kernel
theorem dX10_place_135 : decode cX10_place 135 = .ok (.goto (-117), 3) := by decide +kernel
theorem dX10_place_138 : decode cX10_place 138 = .ok (.iload_n 3, 1) := by decide +kernel
theorem dX10_place_139 : decode cX10_place 139 = .ok (.ireturn, 1) := by decide +kernel
theorem dX10_place_15 : decode cX10_place 15 = .ok (.iconst 0, 1) := by decide +kernel
theorem dX10_place_16 : decode cX10_place 16 = .ok (.istore 5, 2) := by decide +kernel
theorem dX10_place_18 : decode cX10_place 18 = .ok (.iload 5, 2) := by decide +kernel
theorem dX10_place_2 : decode cX10_place 2 = .ok (.invokevirtual 120, 3) := by decide +kernel
theorem dX10_place_20 : decode cX10_place 20 = .ok (.aload_n 0, 1) := by decide +kernel
theorem dX10_place_21 : decode cX10_place 21 = .ok (.getfield 57, 3) := by decide +kernel
theorem dX10_place_24 : decode cX10_place 24 = .ok (.getfield 113, 3) := by decide +kernel
theorem dX10_place_27 : decode cX10_place 27 = .ok (.getfield 191, 3) := by decide +kernel
theorem dX10_place_30 : decode cX10_place 30 = .ok (.if_icmp .ge 108, 3) := by decide +kernel
theorem dX10_place_33 : decode cX10_place 33 = .ok (.iconst 0, 1) := by decide +kernel
theorem dX10_place_34 : decode cX10_place 34 = .ok (.istore 6, 2) := by decide +kernel
theorem dX10_place_36 : decode cX10_place 36 = .ok (.iload 6, 2) := by decide +kernel
theorem dX10_place_38 : decode cX10_place 38 = .ok (.aload_n 0, 1) := by decide +kernel
theorem dX10_place_39 : decode cX10_place 39 = .ok (.getfield 57, 3) := by decide +kernel
theorem dX10_place_42 : decode cX10_place 42 = .ok (.getfield 113, 3) := by decide +kernel
theorem dX10_place_45 : decode cX10_place 45 = .ok (.getfield 271, 3) := by decide +kernel
theorem dX10_place_48 : decode cX10_place 48 = .ok (.if_icmp .ge 84, 3) := by decide +kernel
theorem dX10_place_5 : decode cX10_place 5 = .ok (.aload_n 0, 1) := by decide +kernel
theorem dX10_place_51 : decode cX10_place 51 = .ok (.aload_n 0, 1) := by decide +kernel
theorem dX10_place_52 : decode cX10_place 52 = .ok (.getfield 71, 3) := by decide +kernel
theorem dX10_place_55 : decode cX10_place 55 = .ok (.aload_n 0, 1) := by decide +kernel
theorem dX10_place_56 : decode cX10_place 56 = .ok (.getfield 57, 3) := by decide +kernel
theorem dX10_place_59 : decode cX10_place 59 = .ok (.iload_n 1, 1) := by decide +kernel
theorem dX10_place_6 : decode cX10_place 6 = .ok (.iload_n 1, 1) := by decide +kernel
theorem dX10_place_60 : decode cX10_place 60 = .ok (.iload 5, 2) := by decide +kernel
theorem dX10_place_62 : decode cX10_place 62 = .ok (.iload 6, 2) := by decide +kernel
theorem dX10_place_64 : decode cX10_place 64 = .ok (.iconst 0, 1) := by decide +kernel
theorem dX10_place_65 : decode cX10_place 65 = .ok (.invokevirtual 324, 3) := by decide +kernel
theorem dX10_place_68 : decode cX10_place 68 = .ok (.istore 7, 2) := by decide +kernel
theorem dX10_place_7 : decode cX10_place 7 = .ok (.invokevirtual 331, 3) := by decide +kernel
theorem dX10_place_70 : decode cX10_place 70 = .ok (.iload_n 3, 1) := by decide +kernel
theorem dX10_place_71 : decode cX10_place 71 = .ok (.iconst (-1), 1) := by decide +kernel
theorem dX10_place_72 : decode cX10_place 72 = .ok (.if_icmp .eq 24, 3) := by decide +kernel
theorem dX10_place_75 : decode cX10_place 75 = .ok (.iload_n 2, 1) := by decide +kernel
theorem dX10_place_76 : decode cX10_place 76 = .ok (.ifCond .eq 13, 3) := by decide +kernel
theorem dX10_place_79 : decode cX10_place 79 = .ok (.iload 7, 2) := by decide +kernel
theorem dX10_place_81 : decode cX10_place 81 = .ok (.iload 4, 2) := by decide +kernel
theorem dX10_place_83 : decode cX10_place 83 = .ok (.if_icmp .le 17, 3) := by decide +kernel
theorem dX10_place_86 : decode cX10_place 86 = .ok (.goto 10, 3) := by decide +kernel
theorem dX10_place_89 : decode cX10_place 89 = .ok (.iload 7, 2) := by decide +kernel
theorem dX10_place_91 : decode cX10_place 91 = .ok (.iload 4, 2) := by decide +kernel
theorem dX10_place_93 : decode cX10_place 93 = .ok (.if_icmp .ge 7, 3) := by decide +kernel
theorem dX10_place_96 : decode cX10_place 96 = .ok (.iconst 1, 1) := by decide +kernel
theorem dX10_place_97 : decode cX10_place 97 = .ok (.goto 4, 3) := by decide +kernel
theorem dX10_quake_0 : decode cX10_quake 0 = .ok (.aload_n 0, 1) := by decide +kernel
theorem dX10_quake_1 : decode cX10_quake 1 = .ok (.getfield 64, 3) := by decide +kernel
theorem dX10_quake_11 : decode cX10_quake 11 = .ok (.aload_n 0, 1) := by decide +kernel
theorem dX10_quake_12 : decode cX10_quake 12 = .ok (.getfield 57, 3) := by decide +kernel
theorem dX10_quake_15 : decode cX10_quake 15 = .ok (.invokevirtual 220, 3) := by decide +kernel
theorem dX10_quake_18 : decode cX10_quake 18 = .ok (.ireturn, 1) := by decide +kernel
theorem dX10_quake_4 : decode cX10_quake 4 = .ok (.aload_n 0, 1) := by decide +kernel
theorem dX10_quake_5 : decode cX10_quake 5 = .ok (.getfield 57, 3) := by decide +kernel
theorem dX10_quake_8 : decode cX10_quake 8 = .ok (.invokevirtual 208, 3) := by decide +kernel
theorem dX10_safeIn_0 : decode cX10_safeIn 0 = .ok (.aload_n 0, 1) := by decide +kernel
theorem dX10_safeIn_1 : decode cX10_safeIn 1 = .ok (.iload_n 1, 1) := by decide +kernel
theorem dX10_safeIn_12 : decode cX10_safeIn 12 = .ok (.aload_n 0, 1) := by decide +kernel
theorem dX10_safeIn_13 : decode cX10_safeIn 13 = .ok (.getfield 71, 3) := by decide +kernel
theorem dX10_safeIn_16 : decode cX10_safeIn 16 = .ok (.aload_n 0, 1) := by decide +kernel
theorem dX10_safeIn_17 : decode cX10_safeIn 17 = .ok (.getfield 57, 3) := by decide +kernel
theorem dX10_safeIn_2 : decode cX10_safeIn 2 = .ok (.invokevirtual 156, 3) := by decide +kernel
theorem dX10_safeIn_20 : decode cX10_safeIn 20 = .ok (.invokevirtual 289, 3) := by decide +kernel
theorem dX10_safeIn_23 : decode cX10_safeIn 23 = .ok (.aload_n 0, 1) := by decide +kernel
theorem dX10_safeIn_24 : decode cX10_safeIn 24 = .ok (.getfield 22, 3) := by decide +kernel
theorem dX10_safeIn_27 : decode cX10_safeIn 27 = .ok (.aload_n 0, 1) := by decide +kernel
theorem dX10_safeIn_28 : decode cX10_safeIn 28 = .ok (.getfield 71, 3) := by decide +kernel
theorem dX10_safeIn_31 : decode cX10_safeIn 31 = .ok (.iload_n 1, 1) := by decide +kernel
theorem dX10_safeIn_32 : decode cX10_safeIn 32 = .ok (.invokevirtual 346, 3) := by decide +kernel
theorem dX10_safeIn_35 : decode cX10_safeIn 35 = .ok (.aload_n 0, 1) := by decide +kernel
theorem dX10_safeIn_36 : decode cX10_safeIn 36 = .ok (.getfield 22, 3) := by decide +kernel
theorem dX10_safeIn_39 : decode cX10_safeIn 39 = .ok (.getfield 360, 3) := by decide +kernel
theorem dX10_safeIn_42 : decode cX10_safeIn 42 = .ok (.iload_n 2, 1) := by decide +kernel
theorem dX10_safeIn_43 : decode cX10_safeIn 43 = .ok (.iaload, 1) := by decide +kernel
theorem dX10_safeIn_44 : decode cX10_safeIn 44 = .ok (.ireturn, 1) := by decide +kernel
theorem dX10_safeIn_5 : decode cX10_safeIn 5 = .ok (.iload_n 2, 1) := by decide +kernel
theorem dX10_safeIn_6 : decode cX10_safeIn 6 = .ok (.iconst 0, 1) := by decide +kernel
theorem dX10_safeIn_7 : decode cX10_safeIn 7 = .ok (.bipush 60, 2) := by decide +kernel
theorem dX10_safeIn_9 : decode cX10_safeIn 9 = .ok (.invokestatic 170, 3) := by decide +kernel
theorem dX10_safeWay_0 : decode cX10_safeWay 0 = .ok (.aload_n 0, 1) := by decide +kernel
theorem dX10_safeWay_1 : decode cX10_safeWay 1 = .ok (.iload_n 1, 1) := by decide +kernel
theorem dX10_safeWay_10 : decode cX10_safeWay 10 = .ok (.iload_n 3, 1) := by decide +kernel
theorem dX10_safeWay_11 : decode cX10_safeWay 11 = .ok (.ifCond .eq 25, 3) := by decide +kernel
theorem dX10_safeWay_14 : decode cX10_safeWay 14 = .ok (.iload_n 3, 1) := by decide +kernel
theorem dX10_safeWay_15 : decode cX10_safeWay 15 = .ok (.bipush 10, 2) := by decide +kernel
theorem dX10_safeWay_17 : decode cX10_safeWay 17 = .ok (.if_icmp .lt 9, 3) := by decide +kernel
theorem dX10_safeWay_2 : decode cX10_safeWay 2 = .ok (.invokevirtual 156, 3) := by decide +kernel
theorem dX10_safeWay_20 : decode cX10_safeWay 20 = .ok (.iload_n 3, 1) := by decide +kernel
theorem dX10_safeWay_21 : decode cX10_safeWay 21 = .ok (.bipush 70, 2) := by decide +kernel
theorem dX10_safeWay_23 : decode cX10_safeWay 23 = .ok (.if_icmp .le 13, 3) := by decide +kernel
theorem dX10_safeWay_26 : decode cX10_safeWay 26 = .ok (.new 83, 3) := by decide +kernel
theorem dX10_safeWay_29 : decode cX10_safeWay 29 = .ok (.dup, 1) := by decide +kernel
theorem dX10_safeWay_30 : decode cX10_safeWay 30 = .ok (.ldc 141, 2) := by decide +kernel
theorem dX10_safeWay_32 : decode cX10_safeWay 32 = .ok (.invokespecial 87, 3) := by decide +kernel
theorem dX10_safeWay_35 : decode cX10_safeWay 35 = .ok (.athrow, 1) := by decide +kernel
theorem dX10_safeWay_36 : decode cX10_safeWay 36 = .ok (.aload_n 0, 1) := by decide +kernel
theorem dX10_safeWay_37 : decode cX10_safeWay 37 = .ok (.getfield 71, 3) := by decide +kernel
theorem dX10_safeWay_40 : decode cX10_safeWay 40 = .ok (.aload_n 0, 1) := by decide +kernel
theorem dX10_safeWay_41 : decode cX10_safeWay 41 = .ok (.getfield 57, 3) := by decide +kernel
theorem dX10_safeWay_44 : decode cX10_safeWay 44 = .ok (.invokevirtual 289, 3) := by decide +kernel
theorem dX10_safeWay_47 : decode cX10_safeWay 47 = .ok (.aload_n 0, 1) := by decide +kernel
theorem dX10_safeWay_48 : decode cX10_safeWay 48 = .ok (.getfield 22, 3) := by decide +kernel
theorem dX10_safeWay_5 : decode cX10_safeWay 5 = .ok (.aload_n 0, 1) := by decide +kernel
theorem dX10_safeWay_51 : decode cX10_safeWay 51 = .ok (.aload_n 0, 1) := by decide +kernel
theorem dX10_safeWay_52 : decode cX10_safeWay 52 = .ok (.getfield 71, 3) := by decide +kernel
theorem dX10_safeWay_55 : decode cX10_safeWay 55 = .ok (.iload_n 1, 1) := by decide +kernel
theorem dX10_safeWay_56 : decode cX10_safeWay 56 = .ok (.invokevirtual 346, 3) := by decide +kernel
theorem dX10_safeWay_59 : decode cX10_safeWay 59 = .ok (.aload_n 0, 1) := by decide +kernel
theorem dX10_safeWay_6 : decode cX10_safeWay 6 = .ok (.iload_n 2, 1) := by decide +kernel
theorem dX10_safeWay_60 : decode cX10_safeWay 60 = .ok (.getfield 22, 3) := by decide +kernel
theorem dX10_safeWay_63 : decode cX10_safeWay 63 = .ok (.iload_n 2, 1) := by decide +kernel
theorem dX10_safeWay_64 : decode cX10_safeWay 64 = .ok (.invokevirtual 349, 3) := by decide +kernel
theorem dX10_safeWay_67 : decode cX10_safeWay 67 = .ok (.istore 4, 2) := by decide +kernel
theorem dX10_safeWay_69 : decode cX10_safeWay 69 = .ok (.iload_n 3, 1) := by decide +kernel
theorem dX10_safeWay_7 : decode cX10_safeWay 7 = .ok (.invokevirtual 156, 3) := by decide +kernel
theorem dX10_safeWay_70 : decode cX10_safeWay 70 = .ok (.ifCond .eq 9, 3) := by decide +kernel
theorem dX10_safeWay_73 : decode cX10_safeWay 73 = .ok (.iload 4, 2) := by decide +kernel
theorem dX10_safeWay_75 : decode cX10_safeWay 75 = .ok (.iconst (-1), 1) := by decide +kernel
theorem dX10_safeWay_76 : decode cX10_safeWay 76 = .ok (.if_icmp .ne 6, 3) := by decide +kernel
theorem dX10_safeWay_79 : decode cX10_safeWay 79 = .ok (.iload 4, 2) := by decide +kernel
theorem dX10_safeWay_81 : decode cX10_safeWay 81 = .ok (.ireturn, 1) := by decide +kernel
theorem dX10_safeWay_82 : decode cX10_safeWay 82 = .ok (.aload_n 0, 1) := by decide +kernel
theorem dX10_safeWay_83 : decode cX10_safeWay 83 = .ok (.getfield 22, 3) := by decide +kernel
theorem dX10_safeWay_86 : decode cX10_safeWay 86 = .ok (.iload_n 1, 1) := by decide +kernel
theorem dX10_safeWay_87 : decode cX10_safeWay 87 = .ok (.iload_n 2, 1) := by decide +kernel
theorem dX10_safeWay_88 : decode cX10_safeWay 88 = .ok (.iload 4, 2) := by decide +kernel
theorem dX10_safeWay_90 : decode cX10_safeWay 90 = .ok (.iload_n 3, 1) := by decide +kernel
theorem dX10_safeWay_91 : decode cX10_safeWay 91 = .ok (.bipush 10, 2) := by decide +kernel
theorem dX10_safeWay_93 : decode cX10_safeWay 93 = .ok (.isub, 1) := by decide +kernel
theorem dX10_safeWay_94 : decode cX10_safeWay 94 = .ok (.invokevirtual 352, 3) := by decide +kernel
theorem dX10_safeWay_97 : decode cX10_safeWay 97 = .ok (.ireturn, 1) := by decide +kernel
theorem dX10_safeWays_0 : decode cX10_safeWays 0 = .ok (.aload_n 0, 1) := by decide +kernel
theorem dX10_safeWays_1 : decode cX10_safeWays 1 = .ok (.iload_n 1, 1) := by decide +kernel
theorem dX10_safeWays_10 : decode cX10_safeWays 10 = .ok (.iload_n 3, 1) := by decide +kernel
theorem dX10_safeWays_11 : decode cX10_safeWays 11 = .ok (.iconst 0, 1) := by decide +kernel
theorem dX10_safeWays_12 : decode cX10_safeWays 12 = .ok (.bipush 20, 2) := by decide +kernel
theorem dX10_safeWays_14 : decode cX10_safeWays 14 = .ok (.invokestatic 170, 3) := by decide +kernel
theorem dX10_safeWays_17 : decode cX10_safeWays 17 = .ok (.aload_n 0, 1) := by decide +kernel
theorem dX10_safeWays_18 : decode cX10_safeWays 18 = .ok (.getfield 71, 3) := by decide +kernel
theorem dX10_safeWays_2 : decode cX10_safeWays 2 = .ok (.invokevirtual 156, 3) := by decide +kernel
theorem dX10_safeWays_21 : decode cX10_safeWays 21 = .ok (.aload_n 0, 1) := by decide +kernel
theorem dX10_safeWays_22 : decode cX10_safeWays 22 = .ok (.getfield 57, 3) := by decide +kernel
theorem dX10_safeWays_25 : decode cX10_safeWays 25 = .ok (.invokevirtual 289, 3) := by decide +kernel
theorem dX10_safeWays_28 : decode cX10_safeWays 28 = .ok (.aload_n 0, 1) := by decide +kernel
theorem dX10_safeWays_29 : decode cX10_safeWays 29 = .ok (.getfield 22, 3) := by decide +kernel
theorem dX10_safeWays_32 : decode cX10_safeWays 32 = .ok (.aload_n 0, 1) := by decide +kernel
theorem dX10_safeWays_33 : decode cX10_safeWays 33 = .ok (.getfield 71, 3) := by decide +kernel
theorem dX10_safeWays_36 : decode cX10_safeWays 36 = .ok (.iload_n 1, 1) := by decide +kernel
theorem dX10_safeWays_37 : decode cX10_safeWays 37 = .ok (.invokevirtual 346, 3) := by decide +kernel
theorem dX10_safeWays_40 : decode cX10_safeWays 40 = .ok (.aload_n 0, 1) := by decide +kernel
theorem dX10_safeWays_41 : decode cX10_safeWays 41 = .ok (.getfield 22, 3) := by decide +kernel
theorem dX10_safeWays_44 : decode cX10_safeWays 44 = .ok (.iload_n 1, 1) := by decide +kernel
theorem dX10_safeWays_45 : decode cX10_safeWays 45 = .ok (.iload_n 2, 1) := by decide +kernel
theorem dX10_safeWays_46 : decode cX10_safeWays 46 = .ok (.iload_n 3, 1) := by decide +kernel
theorem dX10_safeWays_47 : decode cX10_safeWays 47 = .ok (.invokevirtual 356, 3) := by decide +kernel
theorem dX10_safeWays_5 : decode cX10_safeWays 5 = .ok (.aload_n 0, 1) := by decide +kernel
theorem dX10_safeWays_50 : decode cX10_safeWays 50 = .ok (.lreturn, 1) := by decide +kernel
theorem dX10_safeWays_6 : decode cX10_safeWays 6 = .ok (.iload_n 2, 1) := by decide +kernel
theorem dX10_safeWays_7 : decode cX10_safeWays 7 = .ok (.invokevirtual 156, 3) := by decide +kernel
theorem dX10_season_0 : decode cX10_season 0 = .ok (.iload_n 2, 1) := by decide +kernel
theorem dX10_season_1 : decode cX10_season 1 = .ok (.iconst 1, 1) := by decide +kernel
theorem dX10_season_12 : decode cX10_season 12 = .ok (.iconst 0, 1) := by decide +kernel
theorem dX10_season_13 : decode cX10_season 13 = .ok (.istore_n 3, 1) := by decide +kernel
theorem dX10_season_14 : decode cX10_season 14 = .ok (.iconst 0, 1) := by decide +kernel
theorem dX10_season_15 : decode cX10_season 15 = .ok (.istore 4, 2) := by decide +kernel
theorem dX10_season_17 : decode cX10_season 17 = .ok (.iload 4, 2) := by decide +kernel
theorem dX10_season_19 : decode cX10_season 19 = .ok (.iload_n 2, 1) := by decide +kernel
theorem dX10_season_2 : decode cX10_season 2 = .ok (.bipush 30, 2) := by decide +kernel
theorem dX10_season_20 : decode cX10_season 20 = .ok (.if_icmp .ge 52, 3) := by decide +kernel
theorem dX10_season_23 : decode cX10_season 23 = .ok (.aload_n 0, 1) := by decide +kernel
theorem dX10_season_24 : decode cX10_season 24 = .ok (.invokevirtual 265, 3) := by decide +kernel
theorem dX10_season_27 : decode cX10_season 27 = .ok (.istore 5, 2) := by decide +kernel
theorem dX10_season_29 : decode cX10_season 29 = .ok (.aload_n 0, 1) := by decide +kernel
theorem dX10_season_30 : decode cX10_season 30 = .ok (.getfield 57, 3) := by decide +kernel
theorem dX10_season_33 : decode cX10_season 33 = .ok (.iload 5, 2) := by decide +kernel
theorem dX10_season_35 : decode cX10_season 35 = .ok (.i2l, 1) := by decide +kernel
theorem dX10_season_36 : decode cX10_season 36 = .ok (.invokestatic 248, 3) := by decide +kernel
theorem dX10_season_39 : decode cX10_season 39 = .ok (.ifCond .ne 27, 3) := by decide +kernel
theorem dX10_season_4 : decode cX10_season 4 = .ok (.invokestatic 170, 3) := by decide +kernel
theorem dX10_season_42 : decode cX10_season 42 = .ok (.aload_n 0, 1) := by decide +kernel
theorem dX10_season_43 : decode cX10_season 43 = .ok (.getfield 64, 3) := by decide +kernel
theorem dX10_season_46 : decode cX10_season 46 = .ok (.aload_n 0, 1) := by decide +kernel
theorem dX10_season_47 : decode cX10_season 47 = .ok (.getfield 57, 3) := by decide +kernel
theorem dX10_season_50 : decode cX10_season 50 = .ok (.invokevirtual 208, 3) := by decide +kernel
theorem dX10_season_53 : decode cX10_season 53 = .ok (.aload_n 0, 1) := by decide +kernel
theorem dX10_season_54 : decode cX10_season 54 = .ok (.getfield 57, 3) := by decide +kernel
theorem dX10_season_57 : decode cX10_season 57 = .ok (.iload 5, 2) := by decide +kernel
theorem dX10_season_59 : decode cX10_season 59 = .ok (.i2l, 1) := by decide +kernel
theorem dX10_season_60 : decode cX10_season 60 = .ok (.invokestatic 252, 3) := by decide +kernel
theorem dX10_season_63 : decode cX10_season 63 = .ok (.iinc 3 1, 3) := by decide +kernel
theorem dX10_season_66 : decode cX10_season 66 = .ok (.iinc 4 1, 3) := by decide +kernel
theorem dX10_season_69 : decode cX10_season 69 = .ok (.goto (-52), 3) := by decide +kernel
theorem dX10_season_7 : decode cX10_season 7 = .ok (.aload_n 0, 1) := by decide +kernel
theorem dX10_season_72 : decode cX10_season 72 = .ok (.iload_n 3, 1) := by decide +kernel
theorem dX10_season_73 : decode cX10_season 73 = .ok (.ireturn, 1) := by decide +kernel
theorem dX10_season_8 : decode cX10_season 8 = .ok (.iload_n 1, 1) := by decide +kernel
theorem dX10_season_9 : decode cX10_season 9 = .ok (.putfield 262, 3) := by decide +kernel
theorem dX10_take_0 : decode cX10_take 0 = .ok (.aload_n 0, 1) := by decide +kernel
theorem dX10_take_1 : decode cX10_take 1 = .ok (.getfield 57, 3) := by decide +kernel
theorem dX10_take_10 : decode cX10_take 10 = .ok (.ifCond .eq 6, 3) := by decide +kernel
theorem dX10_take_13 : decode cX10_take 13 = .ok (.iload_n 2, 1) := by decide +kernel
theorem dX10_take_14 : decode cX10_take 14 = .ok (.ineg, 1) := by decide +kernel
theorem dX10_take_15 : decode cX10_take 15 = .ok (.ireturn, 1) := by decide +kernel
theorem dX10_take_16 : decode cX10_take 16 = .ok (.aload_n 0, 1) := by decide +kernel
theorem dX10_take_17 : decode cX10_take 17 = .ok (.getfield 64, 3) := by decide +kernel
theorem dX10_take_20 : decode cX10_take 20 = .ok (.aload_n 0, 1) := by decide +kernel
theorem dX10_take_21 : decode cX10_take 21 = .ok (.getfield 57, 3) := by decide +kernel
theorem dX10_take_24 : decode cX10_take 24 = .ok (.invokevirtual 208, 3) := by decide +kernel
theorem dX10_take_27 : decode cX10_take 27 = .ok (.aload_n 0, 1) := by decide +kernel
theorem dX10_take_28 : decode cX10_take 28 = .ok (.getfield 57, 3) := by decide +kernel
theorem dX10_take_31 : decode cX10_take 31 = .ok (.iload_n 1, 1) := by decide +kernel
theorem dX10_take_32 : decode cX10_take 32 = .ok (.invokevirtual 217, 3) := by decide +kernel
theorem dX10_take_35 : decode cX10_take 35 = .ok (.aload_n 0, 1) := by decide +kernel
theorem dX10_take_36 : decode cX10_take 36 = .ok (.getfield 57, 3) := by decide +kernel
theorem dX10_take_39 : decode cX10_take 39 = .ok (.getfield 113, 3) := by decide +kernel
theorem dX10_take_4 : decode cX10_take 4 = .ok (.iload_n 1, 1) := by decide +kernel
theorem dX10_take_42 : decode cX10_take 42 = .ok (.getfield 126, 3) := by decide +kernel
theorem dX10_take_45 : decode cX10_take 45 = .ok (.iload_n 1, 1) := by decide +kernel
theorem dX10_take_46 : decode cX10_take 46 = .ok (.iaload, 1) := by decide +kernel
theorem dX10_take_47 : decode cX10_take 47 = .ok (.ireturn, 1) := by decide +kernel
theorem dX10_take_5 : decode cX10_take 5 = .ok (.invokevirtual 214, 3) := by decide +kernel
theorem dX10_take_8 : decode cX10_take 8 = .ok (.istore_n 2, 1) := by decide +kernel
theorem dX10_take_9 : decode cX10_take 9 = .ok (.iload_n 2, 1) := by decide +kernel
theorem dX10_tray_0 : decode cX10_tray 0 = .ok (.aload_n 0, 1) := by decide +kernel
theorem dX10_tray_1 : decode cX10_tray 1 = .ok (.iload_n 1, 1) := by decide +kernel
theorem dX10_tray_11 : decode cX10_tray 11 = .ok (.iload_n 2, 1) := by decide +kernel
theorem dX10_tray_12 : decode cX10_tray 12 = .ok (.iconst 4, 1) := by decide +kernel
theorem dX10_tray_13 : decode cX10_tray 13 = .ok (.if_icmp .ge 13, 3) := by decide +kernel
theorem dX10_tray_16 : decode cX10_tray 16 = .ok (.iload_n 3, 1) := by decide +kernel
theorem dX10_tray_17 : decode cX10_tray 17 = .ok (.ifCond .lt 9, 3) := by decide +kernel
theorem dX10_tray_2 : decode cX10_tray 2 = .ok (.invokevirtual 373, 3) := by decide +kernel
theorem dX10_tray_20 : decode cX10_tray 20 = .ok (.iload_n 3, 1) := by decide +kernel
theorem dX10_tray_21 : decode cX10_tray 21 = .ok (.bipush 30, 2) := by decide +kernel
theorem dX10_tray_23 : decode cX10_tray 23 = .ok (.if_icmp .le 14, 3) := by decide +kernel
theorem dX10_tray_26 : decode cX10_tray 26 = .ok (.new 83, 3) := by decide +kernel
theorem dX10_tray_29 : decode cX10_tray 29 = .ok (.dup, 1) := by decide +kernel
theorem dX10_tray_30 : decode cX10_tray 30 = .ok (.ldc_w 376, 3) := by decide +kernel
theorem dX10_tray_33 : decode cX10_tray 33 = .ok (.invokespecial 87, 3) := by decide +kernel
theorem dX10_tray_36 : decode cX10_tray 36 = .ok (.athrow, 1) := by decide +kernel
theorem dX10_tray_37 : decode cX10_tray 37 = .ok (.aload 4, 2) := by decide +kernel
theorem dX10_tray_39 : decode cX10_tray 39 = .ok (.iload_n 2, 1) := by decide +kernel
theorem dX10_tray_40 : decode cX10_tray 40 = .ok (.iload_n 3, 1) := by decide +kernel
theorem dX10_tray_41 : decode cX10_tray 41 = .ok (.invokevirtual 378, 3) := by decide +kernel
theorem dX10_tray_44 : decode cX10_tray 44 = .ok (.return_, 1) := by decide +kernel
theorem dX10_tray_5 : decode cX10_tray 5 = .ok (.astore 4, 2) := by decide +kernel
theorem dX10_tray_7 : decode cX10_tray 7 = .ok (.iload_n 2, 1) := by decide +kernel
theorem dX10_tray_8 : decode cX10_tray 8 = .ok (.ifCond .lt 18, 3) := by decide +kernel
theorem dX10_undo_0 : decode cX10_undo 0 = .ok (.iload_n 1, 1) := by decide +kernel
theorem dX10_undo_1 : decode cX10_undo 1 = .ok (.iconst 1, 1) := by decide +kernel
theorem dX10_undo_10 : decode cX10_undo 10 = .ok (.getfield 227, 3) := by decide +kernel
theorem dX10_undo_13 : decode cX10_undo 13 = .ok (.if_icmp .le 13, 3) := by decide +kernel
theorem dX10_undo_16 : decode cX10_undo 16 = .ok (.new 83, 3) := by decide +kernel
theorem dX10_undo_19 : decode cX10_undo 19 = .ok (.dup, 1) := by decide +kernel
theorem dX10_undo_2 : decode cX10_undo 2 = .ok (.if_icmp .lt 14, 3) := by decide +kernel
theorem dX10_undo_20 : decode cX10_undo 20 = .ok (.ldc 230, 2) := by decide +kernel
theorem dX10_undo_22 : decode cX10_undo 22 = .ok (.invokespecial 87, 3) := by decide +kernel
theorem dX10_undo_25 : decode cX10_undo 25 = .ok (.athrow, 1) := by decide +kernel
theorem dX10_undo_26 : decode cX10_undo 26 = .ok (.aload_n 0, 1) := by decide +kernel
theorem dX10_undo_27 : decode cX10_undo 27 = .ok (.getfield 64, 3) := by decide +kernel
theorem dX10_undo_30 : decode cX10_undo 30 = .ok (.iload_n 1, 1) := by decide +kernel
theorem dX10_undo_31 : decode cX10_undo 31 = .ok (.aload_n 0, 1) := by decide +kernel
theorem dX10_undo_32 : decode cX10_undo 32 = .ok (.getfield 57, 3) := by decide +kernel
theorem dX10_undo_35 : decode cX10_undo 35 = .ok (.invokevirtual 232, 3) := by decide +kernel
theorem dX10_undo_38 : decode cX10_undo 38 = .ok (.aload_n 0, 1) := by decide +kernel
theorem dX10_undo_39 : decode cX10_undo 39 = .ok (.getfield 64, 3) := by decide +kernel
theorem dX10_undo_42 : decode cX10_undo 42 = .ok (.getfield 227, 3) := by decide +kernel
theorem dX10_undo_45 : decode cX10_undo 45 = .ok (.ireturn, 1) := by decide +kernel
theorem dX10_undo_5 : decode cX10_undo 5 = .ok (.iload_n 1, 1) := by decide +kernel
theorem dX10_undo_6 : decode cX10_undo 6 = .ok (.aload_n 0, 1) := by decide +kernel
theorem dX10_undo_7 : decode cX10_undo 7 = .ok (.getfield 64, 3) := by decide +kernel
theorem dX10_waitFor_0 : decode cX10_waitFor 0 = .ok (.aload_n 0, 1) := by decide +kernel
theorem dX10_waitFor_1 : decode cX10_waitFor 1 = .ok (.iload_n 1, 1) := by decide +kernel
theorem dX10_waitFor_10 : decode cX10_waitFor 10 = .ok (.sipush 999, 3) := by decide +kernel
theorem dX10_waitFor_13 : decode cX10_waitFor 13 = .ok (.invokestatic 170, 3) := by decide +kernel
theorem dX10_waitFor_16 : decode cX10_waitFor 16 = .ok (.iconst 0, 1) := by decide +kernel
theorem dX10_waitFor_17 : decode cX10_waitFor 17 = .ok (.istore 5, 2) := by decide +kernel
theorem dX10_waitFor_19 : decode cX10_waitFor 19 = .ok (.iload 5, 2) := by decide +kernel
theorem dX10_waitFor_2 : decode cX10_waitFor 2 = .ok (.iload_n 2, 1) := by decide +kernel
theorem dX10_waitFor_21 : decode cX10_waitFor 21 = .ok (.bipush 60, 2) := by decide +kernel
theorem dX10_waitFor_23 : decode cX10_waitFor 23 = .ok (.if_icmp .gt 33, 3) := by decide +kernel
theorem dX10_waitFor_26 : decode cX10_waitFor 26 = .ok (.aload_n 0, 1) := by decide +kernel
theorem dX10_waitFor_27 : decode cX10_waitFor 27 = .ok (.getfield 71, 3) := by decide +kernel
theorem dX10_waitFor_3 : decode cX10_waitFor 3 = .ok (.iload_n 3, 1) := by decide +kernel
theorem dX10_waitFor_30 : decode cX10_waitFor 30 = .ok (.aload_n 0, 1) := by decide +kernel
theorem dX10_waitFor_31 : decode cX10_waitFor 31 = .ok (.getfield 57, 3) := by decide +kernel
theorem dX10_waitFor_34 : decode cX10_waitFor 34 = .ok (.iload_n 1, 1) := by decide +kernel
theorem dX10_waitFor_35 : decode cX10_waitFor 35 = .ok (.iload_n 2, 1) := by decide +kernel
theorem dX10_waitFor_36 : decode cX10_waitFor 36 = .ok (.iload_n 3, 1) := by decide +kernel
theorem dX10_waitFor_37 : decode cX10_waitFor 37 = .ok (.iload 5, 2) := by decide +kernel
theorem dX10_waitFor_39 : decode cX10_waitFor 39 = .ok (.invokevirtual 324, 3) := by decide +kernel
theorem dX10_waitFor_4 : decode cX10_waitFor 4 = .ok (.invokevirtual 321, 3) := by decide +kernel
theorem dX10_waitFor_42 : decode cX10_waitFor 42 = .ok (.iload 4, 2) := by decide +kernel
theorem dX10_waitFor_44 : decode cX10_waitFor 44 = .ok (.if_icmp .ne 6, 3) := by decide +kernel
theorem dX10_waitFor_47 : decode cX10_waitFor 47 = .ok (.iload 5, 2) := by decide +kernel
theorem dX10_waitFor_49 : decode cX10_waitFor 49 = .ok (.ireturn, 1) := by decide +kernel
theorem dX10_waitFor_50 : decode cX10_waitFor 50 = .ok (.iinc 5 1, 3) := by decide +kernel
theorem dX10_waitFor_53 : decode cX10_waitFor 53 = .ok (.goto (-34), 3) := by decide +kernel
theorem dX10_waitFor_56 : decode cX10_waitFor 56 = .ok (.iconst (-1), 1) := by decide +kernel
theorem dX10_waitFor_57 : decode cX10_waitFor 57 = .ok (.ireturn, 1) := by decide +kernel
theorem dX10_waitFor_7 : decode cX10_waitFor 7 = .ok (.iload 4, 2) := by decide +kernel
theorem dX10_waitFor_9 : decode cX10_waitFor 9 = .ok (.iconst 0, 1) := by decide +kernel
theorem dX10_waitHurt_0 : decode cX10_waitHurt 0 = .ok (.aload_n 0, 1) := by decide +kernel
theorem dX10_waitHurt_1 : decode cX10_waitHurt 1 = .ok (.iload_n 1, 1) := by decide +kernel
theorem dX10_waitHurt_11 : decode cX10_waitHurt 11 = .ok (.aload_n 0, 1) := by decide +kernel
theorem dX10_waitHurt_12 : decode cX10_waitHurt 12 = .ok (.iload 4, 2) := by decide +kernel
theorem dX10_waitHurt_14 : decode cX10_waitHurt 14 = .ok (.invokevirtual 143, 3) := by decide +kernel
theorem dX10_waitHurt_17 : decode cX10_waitHurt 17 = .ok (.aload_n 0, 1) := by decide +kernel
theorem dX10_waitHurt_18 : decode cX10_waitHurt 18 = .ok (.iload_n 1, 1) := by decide +kernel
theorem dX10_waitHurt_19 : decode cX10_waitHurt 19 = .ok (.invokevirtual 331, 3) := by decide +kernel
theorem dX10_waitHurt_2 : decode cX10_waitHurt 2 = .ok (.invokevirtual 120, 3) := by decide +kernel
theorem dX10_waitHurt_22 : decode cX10_waitHurt 22 = .ok (.iconst 0, 1) := by decide +kernel
theorem dX10_waitHurt_23 : decode cX10_waitHurt 23 = .ok (.istore 5, 2) := by decide +kernel
theorem dX10_waitHurt_25 : decode cX10_waitHurt 25 = .ok (.iload 5, 2) := by decide +kernel
theorem dX10_waitHurt_27 : decode cX10_waitHurt 27 = .ok (.bipush 60, 2) := by decide +kernel
theorem dX10_waitHurt_29 : decode cX10_waitHurt 29 = .ok (.if_icmp .gt 61, 3) := by decide +kernel
theorem dX10_waitHurt_32 : decode cX10_waitHurt 32 = .ok (.aload_n 0, 1) := by decide +kernel
theorem dX10_waitHurt_33 : decode cX10_waitHurt 33 = .ok (.getfield 71, 3) := by decide +kernel
theorem dX10_waitHurt_36 : decode cX10_waitHurt 36 = .ok (.aload_n 0, 1) := by decide +kernel
theorem dX10_waitHurt_37 : decode cX10_waitHurt 37 = .ok (.getfield 57, 3) := by decide +kernel
theorem dX10_waitHurt_40 : decode cX10_waitHurt 40 = .ok (.iload_n 1, 1) := by decide +kernel
theorem dX10_waitHurt_41 : decode cX10_waitHurt 41 = .ok (.iload_n 2, 1) := by decide +kernel
theorem dX10_waitHurt_42 : decode cX10_waitHurt 42 = .ok (.iload_n 3, 1) := by decide +kernel
theorem dX10_waitHurt_43 : decode cX10_waitHurt 43 = .ok (.iload 5, 2) := by decide +kernel
theorem dX10_waitHurt_45 : decode cX10_waitHurt 45 = .ok (.invokevirtual 324, 3) := by decide +kernel
theorem dX10_waitHurt_48 : decode cX10_waitHurt 48 = .ok (.istore 6, 2) := by decide +kernel
theorem dX10_waitHurt_5 : decode cX10_waitHurt 5 = .ok (.aload_n 0, 1) := by decide +kernel
theorem dX10_waitHurt_50 : decode cX10_waitHurt 50 = .ok (.iload 6, 2) := by decide +kernel
theorem dX10_waitHurt_52 : decode cX10_waitHurt 52 = .ok (.ifCond .lt 32, 3) := by decide +kernel
theorem dX10_waitHurt_55 : decode cX10_waitHurt 55 = .ok (.aload_n 0, 1) := by decide +kernel
theorem dX10_waitHurt_56 : decode cX10_waitHurt 56 = .ok (.getfield 57, 3) := by decide +kernel
theorem dX10_waitHurt_59 : decode cX10_waitHurt 59 = .ok (.getfield 113, 3) := by decide +kernel
theorem dX10_waitHurt_6 : decode cX10_waitHurt 6 = .ok (.iload_n 2, 1) := by decide +kernel
theorem dX10_waitHurt_62 : decode cX10_waitHurt 62 = .ok (.iload 4, 2) := by decide +kernel
theorem dX10_waitHurt_64 : decode cX10_waitHurt 64 = .ok (.aload_n 0, 1) := by decide +kernel
theorem dX10_waitHurt_65 : decode cX10_waitHurt 65 = .ok (.getfield 57, 3) := by decide +kernel
theorem dX10_waitHurt_68 : decode cX10_waitHurt 68 = .ok (.getfield 135, 3) := by decide +kernel
theorem dX10_waitHurt_7 : decode cX10_waitHurt 7 = .ok (.iload_n 3, 1) := by decide +kernel
theorem dX10_waitHurt_71 : decode cX10_waitHurt 71 = .ok (.iload 6, 2) := by decide +kernel
theorem dX10_waitHurt_73 : decode cX10_waitHurt 73 = .ok (.iadd, 1) := by decide +kernel
theorem dX10_waitHurt_74 : decode cX10_waitHurt 74 = .ok (.invokevirtual 146, 3) := by decide +kernel
theorem dX10_waitHurt_77 : decode cX10_waitHurt 77 = .ok (.iload_n 2, 1) := by decide +kernel
theorem dX10_waitHurt_78 : decode cX10_waitHurt 78 = .ok (.if_icmp .ne 6, 3) := by decide +kernel
theorem dX10_waitHurt_8 : decode cX10_waitHurt 8 = .ok (.invokevirtual 163, 3) := by decide +kernel
theorem dX10_waitHurt_81 : decode cX10_waitHurt 81 = .ok (.iload 5, 2) := by decide +kernel
theorem dX10_waitHurt_83 : decode cX10_waitHurt 83 = .ok (.ireturn, 1) := by decide +kernel
theorem dX10_waitHurt_84 : decode cX10_waitHurt 84 = .ok (.iinc 5 1, 3) := by decide +kernel
theorem dX10_waitHurt_87 : decode cX10_waitHurt 87 = .ok (.goto (-62), 3) := by decide +kernel
theorem dX10_waitHurt_90 : decode cX10_waitHurt 90 = .ok (.iconst (-1), 1) := by decide +kernel
theorem dX10_waitHurt_91 : decode cX10_waitHurt 91 = .ok (.ireturn, 1) := by decide +kernel
theorem dX10_waitSafe_0 : decode cX10_waitSafe 0 = .ok (.aload_n 0, 1) := by decide +kernel
theorem dX10_waitSafe_1 : decode cX10_waitSafe 1 = .ok (.iload_n 1, 1) := by decide +kernel
theorem dX10_waitSafe_10 : decode cX10_waitSafe 10 = .ok (.iload 4, 2) := by decide +kernel
theorem dX10_waitSafe_12 : decode cX10_waitSafe 12 = .ok (.bipush 60, 2) := by decide +kernel
theorem dX10_waitSafe_14 : decode cX10_waitSafe 14 = .ok (.if_icmp .gt 59, 3) := by decide +kernel
theorem dX10_waitSafe_17 : decode cX10_waitSafe 17 = .ok (.aload_n 0, 1) := by decide +kernel
theorem dX10_waitSafe_18 : decode cX10_waitSafe 18 = .ok (.getfield 71, 3) := by decide +kernel
theorem dX10_waitSafe_2 : decode cX10_waitSafe 2 = .ok (.iload_n 2, 1) := by decide +kernel
theorem dX10_waitSafe_21 : decode cX10_waitSafe 21 = .ok (.aload_n 0, 1) := by decide +kernel
theorem dX10_waitSafe_22 : decode cX10_waitSafe 22 = .ok (.getfield 57, 3) := by decide +kernel
theorem dX10_waitSafe_25 : decode cX10_waitSafe 25 = .ok (.iload_n 1, 1) := by decide +kernel
theorem dX10_waitSafe_26 : decode cX10_waitSafe 26 = .ok (.iload_n 2, 1) := by decide +kernel
theorem dX10_waitSafe_27 : decode cX10_waitSafe 27 = .ok (.iload_n 3, 1) := by decide +kernel
theorem dX10_waitSafe_28 : decode cX10_waitSafe 28 = .ok (.iload 4, 2) := by decide +kernel
theorem dX10_waitSafe_3 : decode cX10_waitSafe 3 = .ok (.iload_n 3, 1) := by decide +kernel
theorem dX10_waitSafe_30 : decode cX10_waitSafe 30 = .ok (.invokevirtual 324, 3) := by decide +kernel
theorem dX10_waitSafe_33 : decode cX10_waitSafe 33 = .ok (.istore 5, 2) := by decide +kernel
theorem dX10_waitSafe_35 : decode cX10_waitSafe 35 = .ok (.iload 5, 2) := by decide +kernel
theorem dX10_waitSafe_37 : decode cX10_waitSafe 37 = .ok (.ifCond .lt 30, 3) := by decide +kernel
theorem dX10_waitSafe_4 : decode cX10_waitSafe 4 = .ok (.invokevirtual 321, 3) := by decide +kernel
theorem dX10_waitSafe_40 : decode cX10_waitSafe 40 = .ok (.aload_n 0, 1) := by decide +kernel
theorem dX10_waitSafe_41 : decode cX10_waitSafe 41 = .ok (.getfield 57, 3) := by decide +kernel
theorem dX10_waitSafe_44 : decode cX10_waitSafe 44 = .ok (.getfield 113, 3) := by decide +kernel
theorem dX10_waitSafe_47 : decode cX10_waitSafe 47 = .ok (.iload_n 2, 1) := by decide +kernel
theorem dX10_waitSafe_48 : decode cX10_waitSafe 48 = .ok (.aload_n 0, 1) := by decide +kernel
theorem dX10_waitSafe_49 : decode cX10_waitSafe 49 = .ok (.getfield 57, 3) := by decide +kernel
theorem dX10_waitSafe_52 : decode cX10_waitSafe 52 = .ok (.getfield 135, 3) := by decide +kernel
theorem dX10_waitSafe_55 : decode cX10_waitSafe 55 = .ok (.iload 5, 2) := by decide +kernel
theorem dX10_waitSafe_57 : decode cX10_waitSafe 57 = .ok (.iadd, 1) := by decide +kernel
theorem dX10_waitSafe_58 : decode cX10_waitSafe 58 = .ok (.invokevirtual 328, 3) := by decide +kernel
theorem dX10_waitSafe_61 : decode cX10_waitSafe 61 = .ok (.ifCond .ne 6, 3) := by decide +kernel
theorem dX10_waitSafe_64 : decode cX10_waitSafe 64 = .ok (.iload 4, 2) := by decide +kernel
theorem dX10_waitSafe_66 : decode cX10_waitSafe 66 = .ok (.ireturn, 1) := by decide +kernel
theorem dX10_waitSafe_67 : decode cX10_waitSafe 67 = .ok (.iinc 4 1, 3) := by decide +kernel
theorem dX10_waitSafe_7 : decode cX10_waitSafe 7 = .ok (.iconst 0, 1) := by decide +kernel
theorem dX10_waitSafe_70 : decode cX10_waitSafe 70 = .ok (.goto (-60), 3) := by decide +kernel
theorem dX10_waitSafe_73 : decode cX10_waitSafe 73 = .ok (.iconst (-1), 1) := by decide +kernel
theorem dX10_waitSafe_74 : decode cX10_waitSafe 74 = .ok (.ireturn, 1) := by decide +kernel
theorem dX10_waitSafe_8 : decode cX10_waitSafe 8 = .ok (.istore 4, 2) := by decide +kernel
theorem dX10_whyNot_0 : decode cX10_whyNot 0 = .ok (.lload_n 1, 1) := by decide +kernel
theorem dX10_whyNot_1 : decode cX10_whyNot 1 = .ok (.ldc2_w 275, 3) := by decide +kernel
theorem dX10_whyNot_12 : decode cX10_whyNot 12 = .ok (.lcmp, 1) := by decide +kernel
theorem dX10_whyNot_13 : decode cX10_whyNot 13 = .ok (.ifCond .ne 5, 3) := by decide +kernel
theorem dX10_whyNot_16 : decode cX10_whyNot 16 = .ok (.iconst 0, 1) := by decide +kernel
theorem dX10_whyNot_17 : decode cX10_whyNot 17 = .ok (.ireturn, 1) := by decide +kernel
theorem dX10_whyNot_18 : decode cX10_whyNot 18 = .ok (.lload_n 1, 1) := by decide +kernel
theorem dX10_whyNot_19 : decode cX10_whyNot 19 = .ok (.lconst 0, 1) := by decide +kernel
theorem dX10_whyNot_20 : decode cX10_whyNot 20 = .ok (.lcmp, 1) := by decide +kernel
theorem dX10_whyNot_21 : decode cX10_whyNot 21 = .ok (.ifCond .lt 34, 3) := by decide +kernel
theorem dX10_whyNot_24 : decode cX10_whyNot 24 = .ok (.lload_n 1, 1) := by decide +kernel
theorem dX10_whyNot_25 : decode cX10_whyNot 25 = .ok (.ldc2_w 279, 3) := by decide +kernel
theorem dX10_whyNot_28 : decode cX10_whyNot 28 = .ok (.lcmp, 1) := by decide +kernel
theorem dX10_whyNot_29 : decode cX10_whyNot 29 = .ok (.ifCond .ge 26, 3) := by decide +kernel
theorem dX10_whyNot_32 : decode cX10_whyNot 32 = .ok (.lload_n 1, 1) := by decide +kernel
theorem dX10_whyNot_33 : decode cX10_whyNot 33 = .ok (.l2i, 1) := by decide +kernel
theorem dX10_whyNot_34 : decode cX10_whyNot 34 = .ok (.istore_n 3, 1) := by decide +kernel
theorem dX10_whyNot_35 : decode cX10_whyNot 35 = .ok (.aload_n 0, 1) := by decide +kernel
theorem dX10_whyNot_36 : decode cX10_whyNot 36 = .ok (.iload_n 3, 1) := by decide +kernel
theorem dX10_whyNot_37 : decode cX10_whyNot 37 = .ok (.bipush 100, 2) := by decide +kernel
theorem dX10_whyNot_39 : decode cX10_whyNot 39 = .ok (.idiv, 1) := by decide +kernel
theorem dX10_whyNot_4 : decode cX10_whyNot 4 = .ok (.lcmp, 1) := by decide +kernel
theorem dX10_whyNot_40 : decode cX10_whyNot 40 = .ok (.iload_n 3, 1) := by decide +kernel
theorem dX10_whyNot_41 : decode cX10_whyNot 41 = .ok (.bipush 10, 2) := by decide +kernel
theorem dX10_whyNot_43 : decode cX10_whyNot 43 = .ok (.idiv, 1) := by decide +kernel
theorem dX10_whyNot_44 : decode cX10_whyNot 44 = .ok (.bipush 10, 2) := by decide +kernel
theorem dX10_whyNot_46 : decode cX10_whyNot 46 = .ok (.irem, 1) := by decide +kernel
theorem dX10_whyNot_47 : decode cX10_whyNot 47 = .ok (.iload_n 3, 1) := by decide +kernel
theorem dX10_whyNot_48 : decode cX10_whyNot 48 = .ok (.bipush 10, 2) := by decide +kernel
theorem dX10_whyNot_5 : decode cX10_whyNot 5 = .ok (.ifCond .eq 11, 3) := by decide +kernel
theorem dX10_whyNot_50 : decode cX10_whyNot 50 = .ok (.irem, 1) := by decide +kernel
theorem dX10_whyNot_51 : decode cX10_whyNot 51 = .ok (.invokevirtual 204, 3) := by decide +kernel
theorem dX10_whyNot_54 : decode cX10_whyNot 54 = .ok (.ireturn, 1) := by decide +kernel
theorem dX10_whyNot_55 : decode cX10_whyNot 55 = .ok (.lload_n 1, 1) := by decide +kernel
theorem dX10_whyNot_56 : decode cX10_whyNot 56 = .ok (.ldc2_w 281, 3) := by decide +kernel
theorem dX10_whyNot_59 : decode cX10_whyNot 59 = .ok (.lcmp, 1) := by decide +kernel
theorem dX10_whyNot_60 : decode cX10_whyNot 60 = .ok (.ifCond .lt 22, 3) := by decide +kernel
theorem dX10_whyNot_63 : decode cX10_whyNot 63 = .ok (.lload_n 1, 1) := by decide +kernel
theorem dX10_whyNot_64 : decode cX10_whyNot 64 = .ok (.ldc2_w 283, 3) := by decide +kernel
theorem dX10_whyNot_67 : decode cX10_whyNot 67 = .ok (.lcmp, 1) := by decide +kernel
theorem dX10_whyNot_68 : decode cX10_whyNot 68 = .ok (.ifCond .ge 14, 3) := by decide +kernel
theorem dX10_whyNot_71 : decode cX10_whyNot 71 = .ok (.aload_n 0, 1) := by decide +kernel
theorem dX10_whyNot_72 : decode cX10_whyNot 72 = .ok (.lload_n 1, 1) := by decide +kernel
theorem dX10_whyNot_73 : decode cX10_whyNot 73 = .ok (.l2i, 1) := by decide +kernel
theorem dX10_whyNot_74 : decode cX10_whyNot 74 = .ok (.sipush 1000, 3) := by decide +kernel
theorem dX10_whyNot_77 : decode cX10_whyNot 77 = .ok (.isub, 1) := by decide +kernel
theorem dX10_whyNot_78 : decode cX10_whyNot 78 = .ok (.invokevirtual 214, 3) := by decide +kernel
theorem dX10_whyNot_8 : decode cX10_whyNot 8 = .ok (.lload_n 1, 1) := by decide +kernel
theorem dX10_whyNot_81 : decode cX10_whyNot 81 = .ok (.ireturn, 1) := by decide +kernel
theorem dX10_whyNot_82 : decode cX10_whyNot 82 = .ok (.iconst 1, 1) := by decide +kernel
theorem dX10_whyNot_83 : decode cX10_whyNot 83 = .ok (.ireturn, 1) := by decide +kernel
theorem dX10_whyNot_9 : decode cX10_whyNot 9 = .ok (.ldc2_w 277, 3) := by decide +kernel
theorem dX10_worst_0 : decode cX10_worst 0 = .ok (.aload_n 0, 1) := by decide +kernel
theorem dX10_worst_1 : decode cX10_worst 1 = .ok (.iload_n 1, 1) := by decide +kernel
theorem dX10_worst_10 : decode cX10_worst 10 = .ok (.iload_n 2, 1) := by decide +kernel
theorem dX10_worst_100 : decode cX10_worst 100 = .ok (.iload 5, 2) := by decide +kernel
theorem dX10_worst_102 : decode cX10_worst 102 = .ok (.invokevirtual 336, 3) := by decide +kernel
theorem dX10_worst_105 : decode cX10_worst 105 = .ok (.aload 8, 2) := by decide +kernel
theorem dX10_worst_107 : decode cX10_worst 107 = .ok (.getfield 113, 3) := by decide +kernel
theorem dX10_worst_11 : decode cX10_worst 11 = .ok (.iconst 0, 1) := by decide +kernel
theorem dX10_worst_110 : decode cX10_worst 110 = .ok (.iload 5, 2) := by decide +kernel
theorem dX10_worst_112 : decode cX10_worst 112 = .ok (.aload 8, 2) := by decide +kernel
theorem dX10_worst_114 : decode cX10_worst 114 = .ok (.getfield 135, 3) := by decide +kernel
theorem dX10_worst_117 : decode cX10_worst 117 = .ok (.invokevirtual 328, 3) := by decide +kernel
theorem dX10_worst_12 : decode cX10_worst 12 = .ok (.iconst 1, 1) := by decide +kernel
theorem dX10_worst_120 : decode cX10_worst 120 = .ok (.imul, 1) := by decide +kernel
theorem dX10_worst_121 : decode cX10_worst 121 = .ok (.istore 9, 2) := by decide +kernel
theorem dX10_worst_123 : decode cX10_worst 123 = .ok (.iload_n 3, 1) := by decide +kernel
theorem dX10_worst_124 : decode cX10_worst 124 = .ok (.iconst (-1), 1) := by decide +kernel
theorem dX10_worst_125 : decode cX10_worst 125 = .ok (.if_icmp .eq 10, 3) := by decide +kernel
theorem dX10_worst_128 : decode cX10_worst 128 = .ok (.iload 9, 2) := by decide +kernel
theorem dX10_worst_13 : decode cX10_worst 13 = .ok (.invokestatic 170, 3) := by decide +kernel
theorem dX10_worst_130 : decode cX10_worst 130 = .ok (.iload 4, 2) := by decide +kernel
theorem dX10_worst_132 : decode cX10_worst 132 = .ok (.if_icmp .le 16, 3) := by decide +kernel
theorem dX10_worst_135 : decode cX10_worst 135 = .ok (.bipush 10, 2) := by decide +kernel
theorem dX10_worst_137 : decode cX10_worst 137 = .ok (.iload 5, 2) := by decide +kernel
theorem dX10_worst_139 : decode cX10_worst 139 = .ok (.imul, 1) := by decide +kernel
theorem dX10_worst_140 : decode cX10_worst 140 = .ok (.iload 6, 2) := by decide +kernel
theorem dX10_worst_142 : decode cX10_worst 142 = .ok (.iadd, 1) := by decide +kernel
theorem dX10_worst_143 : decode cX10_worst 143 = .ok (.istore_n 3, 1) := by decide +kernel
theorem dX10_worst_144 : decode cX10_worst 144 = .ok (.iload 9, 2) := by decide +kernel
theorem dX10_worst_146 : decode cX10_worst 146 = .ok (.istore 4, 2) := by decide +kernel
theorem dX10_worst_148 : decode cX10_worst 148 = .ok (.iinc 6 1, 3) := by decide +kernel
theorem dX10_worst_151 : decode cX10_worst 151 = .ok (.goto (-109), 3) := by decide +kernel
theorem dX10_worst_154 : decode cX10_worst 154 = .ok (.iinc 5 1, 3) := by decide +kernel
theorem dX10_worst_157 : decode cX10_worst 157 = .ok (.goto (-133), 3) := by decide +kernel
theorem dX10_worst_16 : decode cX10_worst 16 = .ok (.iconst (-1), 1) := by decide +kernel
theorem dX10_worst_160 : decode cX10_worst 160 = .ok (.iload_n 2, 1) := by decide +kernel
theorem dX10_worst_161 : decode cX10_worst 161 = .ok (.ifCond .ne 7, 3) := by decide +kernel
theorem dX10_worst_164 : decode cX10_worst 164 = .ok (.iload_n 3, 1) := by decide +kernel
theorem dX10_worst_165 : decode cX10_worst 165 = .ok (.goto 5, 3) := by decide +kernel
theorem dX10_worst_168 : decode cX10_worst 168 = .ok (.iload 4, 2) := by decide +kernel
theorem dX10_worst_17 : decode cX10_worst 17 = .ok (.istore_n 3, 1) := by decide +kernel
theorem dX10_worst_170 : decode cX10_worst 170 = .ok (.ireturn, 1) := by decide +kernel
theorem dX10_worst_18 : decode cX10_worst 18 = .ok (.iconst 0, 1) := by decide +kernel
theorem dX10_worst_19 : decode cX10_worst 19 = .ok (.istore 4, 2) := by decide +kernel
theorem dX10_worst_2 : decode cX10_worst 2 = .ok (.invokevirtual 120, 3) := by decide +kernel
theorem dX10_worst_21 : decode cX10_worst 21 = .ok (.iconst 0, 1) := by decide +kernel
theorem dX10_worst_22 : decode cX10_worst 22 = .ok (.istore 5, 2) := by decide +kernel
theorem dX10_worst_24 : decode cX10_worst 24 = .ok (.iload 5, 2) := by decide +kernel
theorem dX10_worst_26 : decode cX10_worst 26 = .ok (.aload_n 0, 1) := by decide +kernel
theorem dX10_worst_27 : decode cX10_worst 27 = .ok (.getfield 57, 3) := by decide +kernel
theorem dX10_worst_30 : decode cX10_worst 30 = .ok (.getfield 113, 3) := by decide +kernel
theorem dX10_worst_33 : decode cX10_worst 33 = .ok (.getfield 191, 3) := by decide +kernel
theorem dX10_worst_36 : decode cX10_worst 36 = .ok (.if_icmp .ge 124, 3) := by decide +kernel
theorem dX10_worst_39 : decode cX10_worst 39 = .ok (.iconst 0, 1) := by decide +kernel
theorem dX10_worst_40 : decode cX10_worst 40 = .ok (.istore 6, 2) := by decide +kernel
theorem dX10_worst_42 : decode cX10_worst 42 = .ok (.iload 6, 2) := by decide +kernel
theorem dX10_worst_44 : decode cX10_worst 44 = .ok (.aload_n 0, 1) := by decide +kernel
theorem dX10_worst_45 : decode cX10_worst 45 = .ok (.getfield 57, 3) := by decide +kernel
theorem dX10_worst_48 : decode cX10_worst 48 = .ok (.getfield 113, 3) := by decide +kernel
theorem dX10_worst_5 : decode cX10_worst 5 = .ok (.aload_n 0, 1) := by decide +kernel
theorem dX10_worst_51 : decode cX10_worst 51 = .ok (.getfield 271, 3) := by decide +kernel
theorem dX10_worst_54 : decode cX10_worst 54 = .ok (.if_icmp .ge 100, 3) := by decide +kernel
theorem dX10_worst_57 : decode cX10_worst 57 = .ok (.aload_n 0, 1) := by decide +kernel
theorem dX10_worst_58 : decode cX10_worst 58 = .ok (.getfield 71, 3) := by decide +kernel
theorem dX10_worst_6 : decode cX10_worst 6 = .ok (.iload_n 1, 1) := by decide +kernel
theorem dX10_worst_61 : decode cX10_worst 61 = .ok (.aload_n 0, 1) := by decide +kernel
theorem dX10_worst_62 : decode cX10_worst 62 = .ok (.getfield 57, 3) := by decide +kernel
theorem dX10_worst_65 : decode cX10_worst 65 = .ok (.iload_n 1, 1) := by decide +kernel
theorem dX10_worst_66 : decode cX10_worst 66 = .ok (.iload 5, 2) := by decide +kernel
theorem dX10_worst_68 : decode cX10_worst 68 = .ok (.iload 6, 2) := by decide +kernel
theorem dX10_worst_7 : decode cX10_worst 7 = .ok (.invokevirtual 331, 3) := by decide +kernel
theorem dX10_worst_70 : decode cX10_worst 70 = .ok (.iconst 0, 1) := by decide +kernel
theorem dX10_worst_71 : decode cX10_worst 71 = .ok (.invokevirtual 324, 3) := by decide +kernel
theorem dX10_worst_74 : decode cX10_worst 74 = .ok (.istore 7, 2) := by decide +kernel
theorem dX10_worst_76 : decode cX10_worst 76 = .ok (.iload 7, 2) := by decide +kernel
theorem dX10_worst_78 : decode cX10_worst 78 = .ok (.ifCond .ge 6, 3) := by decide +kernel
theorem dX10_worst_81 : decode cX10_worst 81 = .ok (.goto 67, 3) := by decide +kernel
theorem dX10_worst_84 : decode cX10_worst 84 = .ok (.aload_n 0, 1) := by decide +kernel
theorem dX10_worst_85 : decode cX10_worst 85 = .ok (.getfield 71, 3) := by decide +kernel
theorem dX10_worst_88 : decode cX10_worst 88 = .ok (.getfield 240, 3) := by decide +kernel
theorem dX10_worst_91 : decode cX10_worst 91 = .ok (.astore 8, 2) := by decide +kernel
theorem dX10_worst_93 : decode cX10_worst 93 = .ok (.aload 8, 2) := by decide +kernel
theorem dX10_worst_95 : decode cX10_worst 95 = .ok (.aload 8, 2) := by decide +kernel
theorem dX10_worst_97 : decode cX10_worst 97 = .ok (.getfield 334, 3) := by decide +kernel
theorem dX10_write_0 : decode cX10_write 0 = .ok (.aload_n 0, 1) := by decide +kernel
theorem dX10_write_1 : decode cX10_write 1 = .ok (.iload_n 1, 1) := by decide +kernel
theorem dX10_write_11 : decode cX10_write 11 = .ok (.iload_n 2, 1) := by decide +kernel
theorem dX10_write_12 : decode cX10_write 12 = .ok (.aload 5, 2) := by decide +kernel
theorem dX10_write_14 : decode cX10_write 14 = .ok (.getfield 243, 3) := by decide +kernel
theorem dX10_write_17 : decode cX10_write 17 = .ok (.if_icmp .lt 13, 3) := by decide +kernel
theorem dX10_write_2 : decode cX10_write 2 = .ok (.invokevirtual 236, 3) := by decide +kernel
theorem dX10_write_20 : decode cX10_write 20 = .ok (.new 381, 3) := by decide +kernel
theorem dX10_write_23 : decode cX10_write 23 = .ok (.dup, 1) := by decide +kernel
theorem dX10_write_24 : decode cX10_write 24 = .ok (.ldc 200, 2) := by decide +kernel
theorem dX10_write_26 : decode cX10_write 26 = .ok (.invokespecial 383, 3) := by decide +kernel
theorem dX10_write_29 : decode cX10_write 29 = .ok (.athrow, 1) := by decide +kernel
theorem dX10_write_30 : decode cX10_write 30 = .ok (.aload 5, 2) := by decide +kernel
theorem dX10_write_32 : decode cX10_write 32 = .ok (.iload_n 2, 1) := by decide +kernel
theorem dX10_write_33 : decode cX10_write 33 = .ok (.lload_n 3, 1) := by decide +kernel
theorem dX10_write_34 : decode cX10_write 34 = .ok (.invokevirtual 384, 3) := by decide +kernel
theorem dX10_write_37 : decode cX10_write 37 = .ok (.lreturn, 1) := by decide +kernel
theorem dX10_write_5 : decode cX10_write 5 = .ok (.astore 5, 2) := by decide +kernel
theorem dX10_write_7 : decode cX10_write 7 = .ok (.iload_n 2, 1) := by decide +kernel
theorem dX10_write_8 : decode cX10_write 8 = .ok (.ifCond .lt 12, 3) := by decide +kernel
theorem dX2_copyFrom_0 : decode cX2_copyFrom 0 = .ok (.aload_n 0, 1) := by decide +kernel
theorem dX2_copyFrom_1 : decode cX2_copyFrom 1 = .ok (.aload_n 1, 1) := by decide +kernel
theorem dX2_copyFrom_10 : decode cX2_copyFrom 10 = .ok (.getfield 24, 3) := by decide +kernel
theorem dX2_copyFrom_13 : decode cX2_copyFrom 13 = .ok (.putfield 24, 3) := by decide +kernel
theorem dX2_copyFrom_16 : decode cX2_copyFrom 16 = .ok (.iconst 0, 1) := by decide +kernel
theorem dX2_copyFrom_17 : decode cX2_copyFrom 17 = .ok (.istore_n 2, 1) := by decide +kernel
theorem dX2_copyFrom_18 : decode cX2_copyFrom 18 = .ok (.iload_n 2, 1) := by decide +kernel
theorem dX2_copyFrom_19 : decode cX2_copyFrom 19 = .ok (.bipush 10, 2) := by decide +kernel
theorem dX2_copyFrom_2 : decode cX2_copyFrom 2 = .ok (.getfield 20, 3) := by decide +kernel
theorem dX2_copyFrom_21 : decode cX2_copyFrom 21 = .ok (.if_icmp .ge 24, 3) := by decide +kernel
theorem dX2_copyFrom_24 : decode cX2_copyFrom 24 = .ok (.aload_n 0, 1) := by decide +kernel
theorem dX2_copyFrom_25 : decode cX2_copyFrom 25 = .ok (.getfield 11, 3) := by decide +kernel
theorem dX2_copyFrom_28 : decode cX2_copyFrom 28 = .ok (.iload_n 2, 1) := by decide +kernel
theorem dX2_copyFrom_29 : decode cX2_copyFrom 29 = .ok (.aaload, 1) := by decide +kernel
theorem dX2_copyFrom_30 : decode cX2_copyFrom 30 = .ok (.aload_n 1, 1) := by decide +kernel
theorem dX2_copyFrom_31 : decode cX2_copyFrom 31 = .ok (.getfield 11, 3) := by decide +kernel
theorem dX2_copyFrom_34 : decode cX2_copyFrom 34 = .ok (.iload_n 2, 1) := by decide +kernel
theorem dX2_copyFrom_35 : decode cX2_copyFrom 35 = .ok (.aaload, 1) := by decide +kernel
theorem dX2_copyFrom_36 : decode cX2_copyFrom 36 = .ok (.invokevirtual 27, 3) := by decide +kernel
theorem dX2_copyFrom_39 : decode cX2_copyFrom 39 = .ok (.iinc 2 1, 3) := by decide +kernel
theorem dX2_copyFrom_42 : decode cX2_copyFrom 42 = .ok (.goto (-24), 3) := by decide +kernel
theorem dX2_copyFrom_45 : decode cX2_copyFrom 45 = .ok (.return_, 1) := by decide +kernel
theorem dX2_copyFrom_5 : decode cX2_copyFrom 5 = .ok (.putfield 20, 3) := by decide +kernel
theorem dX2_copyFrom_8 : decode cX2_copyFrom 8 = .ok (.aload_n 0, 1) := by decide +kernel
theorem dX2_copyFrom_9 : decode cX2_copyFrom 9 = .ok (.aload_n 1, 1) := by decide +kernel
