theorem dX11_both_0 : decode cX11_both 0 = .ok (.aload_n 0, 1) := by decide +kernel
theorem dX11_both_1 : decode cX11_both 1 = .ok (.aload_n 0, 1) := by decide +kernel
theorem dX11_both_10 : decode cX11_both 10 = .ok (.aload_n 0, 1) := by decide +kernel
theorem dX11_both_102 : decode cX11_both 102 = .ok (.aload_n 0, 1) := by decide +kernel
theorem dX11_both_103 : decode cX11_both 103 = .ok (.getfield 70, 3) := by decide +kernel
theorem dX11_both_106 : decode cX11_both 106 = .ok (.ifCond .le 5, 3) := by decide +kernel
theorem dX11_both_109 : decode cX11_both 109 = .ok (.iconst 0, 1) := by decide +kernel
theorem dX11_both_11 : decode cX11_both 11 = .ok (.iload_n 2, 1) := by decide +kernel
theorem dX11_both_110 : decode cX11_both 110 = .ok (.ireturn, 1) := by decide +kernel
theorem dX11_both_111 : decode cX11_both 111 = .ok (.iconst 0, 1) := by decide +kernel
theorem dX11_both_112 : decode cX11_both 112 = .ok (.istore 7, 2) := by decide +kernel
theorem dX11_both_114 : decode cX11_both 114 = .ok (.iload 7, 2) := by decide +kernel
theorem dX11_both_116 : decode cX11_both 116 = .ok (.bipush 60, 2) := by decide +kernel
theorem dX11_both_118 : decode cX11_both 118 = .ok (.if_icmp .gt 30, 3) := by decide +kernel
theorem dX11_both_12 : decode cX11_both 12 = .ok (.i2l, 1) := by decide +kernel
theorem dX11_both_121 : decode cX11_both 121 = .ok (.aload_n 0, 1) := by decide +kernel
theorem dX11_both_122 : decode cX11_both 122 = .ok (.iload_n 1, 1) := by decide +kernel
theorem dX11_both_123 : decode cX11_both 123 = .ok (.iload_n 3, 1) := by decide +kernel
theorem dX11_both_124 : decode cX11_both 124 = .ok (.iload 5, 2) := by decide +kernel
theorem dX11_both_126 : decode cX11_both 126 = .ok (.iload 7, 2) := by decide +kernel
theorem dX11_both_128 : decode cX11_both 128 = .ok (.invokevirtual 479, 3) := by decide +kernel
theorem dX11_both_13 : decode cX11_both 13 = .ok (.invokevirtual 363, 3) := by decide +kernel
theorem dX11_both_131 : decode cX11_both 131 = .ok (.aload_n 0, 1) := by decide +kernel
theorem dX11_both_132 : decode cX11_both 132 = .ok (.getfield 39, 3) := by decide +kernel
theorem dX11_both_135 : decode cX11_both 135 = .ok (.iload 7, 2) := by decide +kernel
theorem dX11_both_137 : decode cX11_both 137 = .ok (.aload_n 0, 1) := by decide +kernel
theorem dX11_both_138 : decode cX11_both 138 = .ok (.getfield 468, 3) := by decide +kernel
theorem dX11_both_141 : decode cX11_both 141 = .ok (.iastore, 1) := by decide +kernel
theorem dX11_both_142 : decode cX11_both 142 = .ok (.iinc 7 1, 3) := by decide +kernel
theorem dX11_both_145 : decode cX11_both 145 = .ok (.goto (-31), 3) := by decide +kernel
theorem dX11_both_148 : decode cX11_both 148 = .ok (.ldc_w 358, 3) := by decide +kernel
theorem dX11_both_151 : decode cX11_both 151 = .ok (.istore 7, 2) := by decide +kernel
theorem dX11_both_153 : decode cX11_both 153 = .ok (.iconst (-1), 1) := by decide +kernel
theorem dX11_both_154 : decode cX11_both 154 = .ok (.istore 8, 2) := by decide +kernel
theorem dX11_both_156 : decode cX11_both 156 = .ok (.iconst (-1), 1) := by decide +kernel
theorem dX11_both_157 : decode cX11_both 157 = .ok (.istore 9, 2) := by decide +kernel
theorem dX11_both_159 : decode cX11_both 159 = .ok (.iconst 0, 1) := by decide +kernel
theorem dX11_both_16 : decode cX11_both 16 = .ok (.ifCond .eq 28, 3) := by decide +kernel
theorem dX11_both_160 : decode cX11_both 160 = .ok (.istore 10, 2) := by decide +kernel
theorem dX11_both_162 : decode cX11_both 162 = .ok (.iload 10, 2) := by decide +kernel
theorem dX11_both_164 : decode cX11_both 164 = .ok (.bipush 60, 2) := by decide +kernel
theorem dX11_both_166 : decode cX11_both 166 = .ok (.if_icmp .gt 84, 3) := by decide +kernel
theorem dX11_both_169 : decode cX11_both 169 = .ok (.aload_n 0, 1) := by decide +kernel
theorem dX11_both_170 : decode cX11_both 170 = .ok (.iload_n 2, 1) := by decide +kernel
theorem dX11_both_171 : decode cX11_both 171 = .ok (.iload 4, 2) := by decide +kernel
theorem dX11_both_173 : decode cX11_both 173 = .ok (.iload 5, 2) := by decide +kernel
theorem dX11_both_175 : decode cX11_both 175 = .ok (.iload 10, 2) := by decide +kernel
theorem dX11_both_177 : decode cX11_both 177 = .ok (.invokevirtual 479, 3) := by decide +kernel
theorem dX11_both_180 : decode cX11_both 180 = .ok (.iconst 0, 1) := by decide +kernel
theorem dX11_both_181 : decode cX11_both 181 = .ok (.istore 11, 2) := by decide +kernel
theorem dX11_both_183 : decode cX11_both 183 = .ok (.iload 11, 2) := by decide +kernel
theorem dX11_both_185 : decode cX11_both 185 = .ok (.bipush 60, 2) := by decide +kernel
theorem dX11_both_187 : decode cX11_both 187 = .ok (.if_icmp .gt 57, 3) := by decide +kernel
theorem dX11_both_19 : decode cX11_both 19 = .ok (.aload_n 0, 1) := by decide +kernel
theorem dX11_both_190 : decode cX11_both 190 = .ok (.aload_n 0, 1) := by decide +kernel
theorem dX11_both_191 : decode cX11_both 191 = .ok (.getfield 468, 3) := by decide +kernel
theorem dX11_both_194 : decode cX11_both 194 = .ok (.iconst (-1), 1) := by decide +kernel
theorem dX11_both_195 : decode cX11_both 195 = .ok (.if_icmp .eq 43, 3) := by decide +kernel
theorem dX11_both_198 : decode cX11_both 198 = .ok (.aload_n 0, 1) := by decide +kernel
theorem dX11_both_199 : decode cX11_both 199 = .ok (.getfield 39, 3) := by decide +kernel
theorem dX11_both_2 : decode cX11_both 2 = .ok (.iload_n 1, 1) := by decide +kernel
theorem dX11_both_20 : decode cX11_both 20 = .ok (.iload_n 3, 1) := by decide +kernel
theorem dX11_both_202 : decode cX11_both 202 = .ok (.iload 11, 2) := by decide +kernel
theorem dX11_both_204 : decode cX11_both 204 = .ok (.iaload, 1) := by decide +kernel
theorem dX11_both_205 : decode cX11_both 205 = .ok (.aload_n 0, 1) := by decide +kernel
theorem dX11_both_206 : decode cX11_both 206 = .ok (.getfield 468, 3) := by decide +kernel
theorem dX11_both_209 : decode cX11_both 209 = .ok (.if_icmp .ne 29, 3) := by decide +kernel
theorem dX11_both_21 : decode cX11_both 21 = .ok (.i2l, 1) := by decide +kernel
theorem dX11_both_212 : decode cX11_both 212 = .ok (.aload_n 0, 1) := by decide +kernel
theorem dX11_both_213 : decode cX11_both 213 = .ok (.getfield 468, 3) := by decide +kernel
theorem dX11_both_216 : decode cX11_both 216 = .ok (.iload 7, 2) := by decide +kernel
theorem dX11_both_218 : decode cX11_both 218 = .ok (.if_icmp .lt 6, 3) := by decide +kernel
theorem dX11_both_22 : decode cX11_both 22 = .ok (.iload 5, 2) := by decide +kernel
theorem dX11_both_221 : decode cX11_both 221 = .ok (.goto 17, 3) := by decide +kernel
theorem dX11_both_224 : decode cX11_both 224 = .ok (.aload_n 0, 1) := by decide +kernel
theorem dX11_both_225 : decode cX11_both 225 = .ok (.getfield 468, 3) := by decide +kernel
theorem dX11_both_228 : decode cX11_both 228 = .ok (.istore 7, 2) := by decide +kernel
theorem dX11_both_230 : decode cX11_both 230 = .ok (.iload 11, 2) := by decide +kernel
theorem dX11_both_232 : decode cX11_both 232 = .ok (.istore 8, 2) := by decide +kernel
theorem dX11_both_234 : decode cX11_both 234 = .ok (.iload 10, 2) := by decide +kernel
theorem dX11_both_236 : decode cX11_both 236 = .ok (.istore 9, 2) := by decide +kernel
theorem dX11_both_238 : decode cX11_both 238 = .ok (.iinc 11 1, 3) := by decide +kernel
theorem dX11_both_24 : decode cX11_both 24 = .ok (.i2l, 1) := by decide +kernel
theorem dX11_both_241 : decode cX11_both 241 = .ok (.goto (-58), 3) := by decide +kernel
theorem dX11_both_244 : decode cX11_both 244 = .ok (.iinc 10 1, 3) := by decide +kernel
theorem dX11_both_247 : decode cX11_both 247 = .ok (.goto (-85), 3) := by decide +kernel
theorem dX11_both_25 : decode cX11_both 25 = .ok (.invokevirtual 373, 3) := by decide +kernel
theorem dX11_both_250 : decode cX11_both 250 = .ok (.iload 7, 2) := by decide +kernel
theorem dX11_both_252 : decode cX11_both 252 = .ok (.ldc_w 358, 3) := by decide +kernel
theorem dX11_both_255 : decode cX11_both 255 = .ok (.if_icmp .ne 7, 3) := by decide +kernel
theorem dX11_both_258 : decode cX11_both 258 = .ok (.iconst (-1), 1) := by decide +kernel
theorem dX11_both_259 : decode cX11_both 259 = .ok (.goto 26, 3) := by decide +kernel
theorem dX11_both_262 : decode cX11_both 262 = .ok (.iload 6, 2) := by decide +kernel
theorem dX11_both_264 : decode cX11_both 264 = .ok (.ifCond .ne 8, 3) := by decide +kernel
theorem dX11_both_267 : decode cX11_both 267 = .ok (.iload 7, 2) := by decide +kernel
theorem dX11_both_269 : decode cX11_both 269 = .ok (.goto 16, 3) := by decide +kernel
theorem dX11_both_272 : decode cX11_both 272 = .ok (.iload 6, 2) := by decide +kernel
theorem dX11_both_274 : decode cX11_both 274 = .ok (.iconst 1, 1) := by decide +kernel
theorem dX11_both_275 : decode cX11_both 275 = .ok (.if_icmp .ne 8, 3) := by decide +kernel
theorem dX11_both_278 : decode cX11_both 278 = .ok (.iload 8, 2) := by decide +kernel
theorem dX11_both_28 : decode cX11_both 28 = .ok (.ifCond .eq 16, 3) := by decide +kernel
theorem dX11_both_280 : decode cX11_both 280 = .ok (.goto 5, 3) := by decide +kernel
theorem dX11_both_283 : decode cX11_both 283 = .ok (.iload 9, 2) := by decide +kernel
theorem dX11_both_285 : decode cX11_both 285 = .ok (.ireturn, 1) := by decide +kernel
theorem dX11_both_3 : decode cX11_both 3 = .ok (.i2l, 1) := by decide +kernel
theorem dX11_both_31 : decode cX11_both 31 = .ok (.aload_n 0, 1) := by decide +kernel
theorem dX11_both_32 : decode cX11_both 32 = .ok (.iload 4, 2) := by decide +kernel
theorem dX11_both_34 : decode cX11_both 34 = .ok (.i2l, 1) := by decide +kernel
theorem dX11_both_35 : decode cX11_both 35 = .ok (.iload 5, 2) := by decide +kernel
theorem dX11_both_37 : decode cX11_both 37 = .ok (.i2l, 1) := by decide +kernel
theorem dX11_both_38 : decode cX11_both 38 = .ok (.invokevirtual 373, 3) := by decide +kernel
theorem dX11_both_4 : decode cX11_both 4 = .ok (.invokevirtual 363, 3) := by decide +kernel
theorem dX11_both_41 : decode cX11_both 41 = .ok (.ifCond .ne 7, 3) := by decide +kernel
theorem dX11_both_44 : decode cX11_both 44 = .ok (.iconst 1, 1) := by decide +kernel
theorem dX11_both_45 : decode cX11_both 45 = .ok (.goto 54, 3) := by decide +kernel
theorem dX11_both_48 : decode cX11_both 48 = .ok (.aload_n 0, 1) := by decide +kernel
theorem dX11_both_49 : decode cX11_both 49 = .ok (.iload_n 1, 1) := by decide +kernel
theorem dX11_both_50 : decode cX11_both 50 = .ok (.iconst 0, 1) := by decide +kernel
theorem dX11_both_51 : decode cX11_both 51 = .ok (.invokevirtual 283, 3) := by decide +kernel
theorem dX11_both_54 : decode cX11_both 54 = .ok (.ifCond .eq 12, 3) := by decide +kernel
theorem dX11_both_57 : decode cX11_both 57 = .ok (.aload_n 0, 1) := by decide +kernel
theorem dX11_both_58 : decode cX11_both 58 = .ok (.iload_n 2, 1) := by decide +kernel
theorem dX11_both_59 : decode cX11_both 59 = .ok (.iconst 0, 1) := by decide +kernel
theorem dX11_both_60 : decode cX11_both 60 = .ok (.invokevirtual 283, 3) := by decide +kernel
theorem dX11_both_63 : decode cX11_both 63 = .ok (.ifCond .ne 7, 3) := by decide +kernel
theorem dX11_both_66 : decode cX11_both 66 = .ok (.iconst 2, 1) := by decide +kernel
theorem dX11_both_67 : decode cX11_both 67 = .ok (.goto 32, 3) := by decide +kernel
theorem dX11_both_7 : decode cX11_both 7 = .ok (.ifCond .eq 37, 3) := by decide +kernel
theorem dX11_both_70 : decode cX11_both 70 = .ok (.iload_n 1, 1) := by decide +kernel
theorem dX11_both_71 : decode cX11_both 71 = .ok (.iload_n 2, 1) := by decide +kernel
theorem dX11_both_72 : decode cX11_both 72 = .ok (.if_icmp .eq 22, 3) := by decide +kernel
theorem dX11_both_75 : decode cX11_both 75 = .ok (.iload_n 3, 1) := by decide +kernel
theorem dX11_both_76 : decode cX11_both 76 = .ok (.iload 4, 2) := by decide +kernel
theorem dX11_both_78 : decode cX11_both 78 = .ok (.if_icmp .eq 16, 3) := by decide +kernel
theorem dX11_both_81 : decode cX11_both 81 = .ok (.iload 6, 2) := by decide +kernel
theorem dX11_both_83 : decode cX11_both 83 = .ok (.i2l, 1) := by decide +kernel
theorem dX11_both_84 : decode cX11_both 84 = .ok (.lconst 0, 1) := by decide +kernel
theorem dX11_both_85 : decode cX11_both 85 = .ok (.ldc2_w 371, 3) := by decide +kernel
theorem dX11_both_88 : decode cX11_both 88 = .ok (.invokestatic 131, 3) := by decide +kernel
theorem dX11_both_91 : decode cX11_both 91 = .ok (.ifCond .ne 7, 3) := by decide +kernel
theorem dX11_both_94 : decode cX11_both 94 = .ok (.iconst 3, 1) := by decide +kernel
theorem dX11_both_95 : decode cX11_both 95 = .ok (.goto 4, 3) := by decide +kernel
theorem dX11_both_98 : decode cX11_both 98 = .ok (.iconst 0, 1) := by decide +kernel
theorem dX11_both_99 : decode cX11_both 99 = .ok (.putfield 70, 3) := by decide +kernel
theorem dX11_copy_0 : decode cX11_copy 0 = .ok (.aload_n 0, 1) := by decide +kernel
theorem dX11_copy_1 : decode cX11_copy 1 = .ok (.aload_n 0, 1) := by decide +kernel
theorem dX11_copy_10 : decode cX11_copy 10 = .ok (.getfield 70, 3) := by decide +kernel
theorem dX11_copy_13 : decode cX11_copy 13 = .ok (.ifCond .le 5, 3) := by decide +kernel
theorem dX11_copy_16 : decode cX11_copy 16 = .ok (.iconst 0, 1) := by decide +kernel
theorem dX11_copy_17 : decode cX11_copy 17 = .ok (.ireturn, 1) := by decide +kernel
theorem dX11_copy_18 : decode cX11_copy 18 = .ok (.aload_n 0, 1) := by decide +kernel
theorem dX11_copy_19 : decode cX11_copy 19 = .ok (.getfield 64, 3) := by decide +kernel
theorem dX11_copy_2 : decode cX11_copy 2 = .ok (.iload_n 1, 1) := by decide +kernel
theorem dX11_copy_22 : decode cX11_copy 22 = .ok (.iload_n 1, 1) := by decide +kernel
theorem dX11_copy_23 : decode cX11_copy 23 = .ok (.iaload, 1) := by decide +kernel
theorem dX11_copy_24 : decode cX11_copy 24 = .ok (.aload_n 0, 1) := by decide +kernel
theorem dX11_copy_25 : decode cX11_copy 25 = .ok (.invokevirtual 280, 3) := by decide +kernel
theorem dX11_copy_28 : decode cX11_copy 28 = .ok (.invokestatic 316, 3) := by decide +kernel
theorem dX11_copy_3 : decode cX11_copy 3 = .ok (.invokevirtual 420, 3) := by decide +kernel
theorem dX11_copy_31 : decode cX11_copy 31 = .ok (.istore_n 2, 1) := by decide +kernel
theorem dX11_copy_32 : decode cX11_copy 32 = .ok (.iconst 0, 1) := by decide +kernel
theorem dX11_copy_33 : decode cX11_copy 33 = .ok (.istore_n 3, 1) := by decide +kernel
theorem dX11_copy_34 : decode cX11_copy 34 = .ok (.iload_n 3, 1) := by decide +kernel
theorem dX11_copy_35 : decode cX11_copy 35 = .ok (.iload_n 2, 1) := by decide +kernel
theorem dX11_copy_36 : decode cX11_copy 36 = .ok (.if_icmp .ge 22, 3) := by decide +kernel
theorem dX11_copy_39 : decode cX11_copy 39 = .ok (.aload_n 0, 1) := by decide +kernel
theorem dX11_copy_40 : decode cX11_copy 40 = .ok (.iload_n 1, 1) := by decide +kernel
theorem dX11_copy_41 : decode cX11_copy 41 = .ok (.iload_n 3, 1) := by decide +kernel
theorem dX11_copy_42 : decode cX11_copy 42 = .ok (.aload_n 0, 1) := by decide +kernel
theorem dX11_copy_43 : decode cX11_copy 43 = .ok (.iload_n 3, 1) := by decide +kernel
theorem dX11_copy_44 : decode cX11_copy 44 = .ok (.invokevirtual 452, 3) := by decide +kernel
theorem dX11_copy_47 : decode cX11_copy 47 = .ok (.i2l, 1) := by decide +kernel
theorem dX11_copy_48 : decode cX11_copy 48 = .ok (.invokevirtual 527, 3) := by decide +kernel
theorem dX11_copy_51 : decode cX11_copy 51 = .ok (.pop2, 1) := by decide +kernel
theorem dX11_copy_52 : decode cX11_copy 52 = .ok (.iinc 3 1, 3) := by decide +kernel
theorem dX11_copy_55 : decode cX11_copy 55 = .ok (.goto (-21), 3) := by decide +kernel
theorem dX11_copy_58 : decode cX11_copy 58 = .ok (.iload_n 2, 1) := by decide +kernel
theorem dX11_copy_59 : decode cX11_copy 59 = .ok (.ireturn, 1) := by decide +kernel
theorem dX11_copy_6 : decode cX11_copy 6 = .ok (.putfield 70, 3) := by decide +kernel
theorem dX11_copy_9 : decode cX11_copy 9 = .ok (.aload_n 0, 1) := by decide +kernel
theorem dX11_fallsBy_0 : decode cX11_fallsBy 0 = .ok (.aload_n 0, 1) := by decide +kernel
theorem dX11_fallsBy_1 : decode cX11_fallsBy 1 = .ok (.iload_n 1, 1) := by decide +kernel
theorem dX11_fallsBy_10 : decode cX11_fallsBy 10 = .ok (.iload 4, 2) := by decide +kernel
theorem dX11_fallsBy_12 : decode cX11_fallsBy 12 = .ok (.i2l, 1) := by decide +kernel
theorem dX11_fallsBy_13 : decode cX11_fallsBy 13 = .ok (.lconst 0, 1) := by decide +kernel
theorem dX11_fallsBy_14 : decode cX11_fallsBy 14 = .ok (.ldc2_w 477, 3) := by decide +kernel
theorem dX11_fallsBy_17 : decode cX11_fallsBy 17 = .ok (.invokestatic 131, 3) := by decide +kernel
theorem dX11_fallsBy_2 : decode cX11_fallsBy 2 = .ok (.iload_n 2, 1) := by decide +kernel
theorem dX11_fallsBy_20 : decode cX11_fallsBy 20 = .ok (.ifCond .ne 8, 3) := by decide +kernel
theorem dX11_fallsBy_23 : decode cX11_fallsBy 23 = .ok (.aload_n 0, 1) := by decide +kernel
theorem dX11_fallsBy_24 : decode cX11_fallsBy 24 = .ok (.iconst 3, 1) := by decide +kernel
theorem dX11_fallsBy_25 : decode cX11_fallsBy 25 = .ok (.putfield 70, 3) := by decide +kernel
theorem dX11_fallsBy_28 : decode cX11_fallsBy 28 = .ok (.aload_n 0, 1) := by decide +kernel
theorem dX11_fallsBy_29 : decode cX11_fallsBy 29 = .ok (.getfield 70, 3) := by decide +kernel
theorem dX11_fallsBy_3 : decode cX11_fallsBy 3 = .ok (.iload_n 3, 1) := by decide +kernel
theorem dX11_fallsBy_32 : decode cX11_fallsBy 32 = .ok (.ifCond .le 5, 3) := by decide +kernel
theorem dX11_fallsBy_35 : decode cX11_fallsBy 35 = .ok (.iconst 0, 1) := by decide +kernel
theorem dX11_fallsBy_36 : decode cX11_fallsBy 36 = .ok (.ireturn, 1) := by decide +kernel
theorem dX11_fallsBy_37 : decode cX11_fallsBy 37 = .ok (.aload_n 0, 1) := by decide +kernel
theorem dX11_fallsBy_38 : decode cX11_fallsBy 38 = .ok (.iload_n 1, 1) := by decide +kernel
theorem dX11_fallsBy_39 : decode cX11_fallsBy 39 = .ok (.iload_n 2, 1) := by decide +kernel
theorem dX11_fallsBy_4 : decode cX11_fallsBy 4 = .ok (.invokevirtual 474, 3) := by decide +kernel
theorem dX11_fallsBy_40 : decode cX11_fallsBy 40 = .ok (.iload_n 3, 1) := by decide +kernel
theorem dX11_fallsBy_41 : decode cX11_fallsBy 41 = .ok (.iload 4, 2) := by decide +kernel
theorem dX11_fallsBy_43 : decode cX11_fallsBy 43 = .ok (.invokevirtual 479, 3) := by decide +kernel
theorem dX11_fallsBy_46 : decode cX11_fallsBy 46 = .ok (.aload_n 0, 1) := by decide +kernel
theorem dX11_fallsBy_47 : decode cX11_fallsBy 47 = .ok (.getfield 468, 3) := by decide +kernel
theorem dX11_fallsBy_50 : decode cX11_fallsBy 50 = .ok (.ireturn, 1) := by decide +kernel
theorem dX11_fallsBy_7 : decode cX11_fallsBy 7 = .ok (.ifCond .ne 21, 3) := by decide +kernel
theorem dX11_isWaitOut_0 : decode cX11_isWaitOut 0 = .ok (.aload_n 0, 1) := by decide +kernel
theorem dX11_isWaitOut_1 : decode cX11_isWaitOut 1 = .ok (.aload_n 0, 1) := by decide +kernel
theorem dX11_isWaitOut_10 : decode cX11_isWaitOut 10 = .ok (.aload_n 0, 1) := by decide +kernel
theorem dX11_isWaitOut_11 : decode cX11_isWaitOut 11 = .ok (.iload_n 2, 1) := by decide +kernel
theorem dX11_isWaitOut_12 : decode cX11_isWaitOut 12 = .ok (.i2l, 1) := by decide +kernel
theorem dX11_isWaitOut_13 : decode cX11_isWaitOut 13 = .ok (.iload_n 3, 1) := by decide +kernel
theorem dX11_isWaitOut_14 : decode cX11_isWaitOut 14 = .ok (.i2l, 1) := by decide +kernel
theorem dX11_isWaitOut_15 : decode cX11_isWaitOut 15 = .ok (.invokevirtual 373, 3) := by decide +kernel
theorem dX11_isWaitOut_18 : decode cX11_isWaitOut 18 = .ok (.ifCond .ne 7, 3) := by decide +kernel
theorem dX11_isWaitOut_2 : decode cX11_isWaitOut 2 = .ok (.iload_n 1, 1) := by decide +kernel
theorem dX11_isWaitOut_21 : decode cX11_isWaitOut 21 = .ok (.iconst 1, 1) := by decide +kernel
theorem dX11_isWaitOut_22 : decode cX11_isWaitOut 22 = .ok (.goto 17, 3) := by decide +kernel
theorem dX11_isWaitOut_25 : decode cX11_isWaitOut 25 = .ok (.aload_n 0, 1) := by decide +kernel
theorem dX11_isWaitOut_26 : decode cX11_isWaitOut 26 = .ok (.iload_n 1, 1) := by decide +kernel
theorem dX11_isWaitOut_27 : decode cX11_isWaitOut 27 = .ok (.iconst 0, 1) := by decide +kernel
theorem dX11_isWaitOut_28 : decode cX11_isWaitOut 28 = .ok (.invokevirtual 283, 3) := by decide +kernel
theorem dX11_isWaitOut_3 : decode cX11_isWaitOut 3 = .ok (.i2l, 1) := by decide +kernel
theorem dX11_isWaitOut_31 : decode cX11_isWaitOut 31 = .ok (.ifCond .eq 7, 3) := by decide +kernel
theorem dX11_isWaitOut_34 : decode cX11_isWaitOut 34 = .ok (.iconst 0, 1) := by decide +kernel
theorem dX11_isWaitOut_35 : decode cX11_isWaitOut 35 = .ok (.goto 4, 3) := by decide +kernel
theorem dX11_isWaitOut_38 : decode cX11_isWaitOut 38 = .ok (.iconst 2, 1) := by decide +kernel
theorem dX11_isWaitOut_39 : decode cX11_isWaitOut 39 = .ok (.putfield 70, 3) := by decide +kernel
theorem dX11_isWaitOut_4 : decode cX11_isWaitOut 4 = .ok (.invokevirtual 363, 3) := by decide +kernel
theorem dX11_isWaitOut_42 : decode cX11_isWaitOut 42 = .ok (.aload_n 0, 1) := by decide +kernel
theorem dX11_isWaitOut_43 : decode cX11_isWaitOut 43 = .ok (.getfield 70, 3) := by decide +kernel
theorem dX11_isWaitOut_46 : decode cX11_isWaitOut 46 = .ok (.ifCond .le 7, 3) := by decide +kernel
theorem dX11_isWaitOut_49 : decode cX11_isWaitOut 49 = .ok (.iconst 1, 1) := by decide +kernel
theorem dX11_isWaitOut_50 : decode cX11_isWaitOut 50 = .ok (.goto 4, 3) := by decide +kernel
theorem dX11_isWaitOut_53 : decode cX11_isWaitOut 53 = .ok (.iconst 0, 1) := by decide +kernel
theorem dX11_isWaitOut_54 : decode cX11_isWaitOut 54 = .ok (.ireturn, 1) := by decide +kernel
theorem dX11_isWaitOut_7 : decode cX11_isWaitOut 7 = .ok (.ifCond .eq 14, 3) := by decide +kernel
theorem dX11_judge_0 : decode cX11_judge 0 = .ok (.aload_n 0, 1) := by decide +kernel
theorem dX11_judge_1 : decode cX11_judge 1 = .ok (.aload_n 0, 1) := by decide +kernel
theorem dX11_judge_10 : decode cX11_judge 10 = .ok (.getfield 70, 3) := by decide +kernel
theorem dX11_judge_100 : decode cX11_judge 100 = .ok (.iload_n 1, 1) := by decide +kernel
theorem dX11_judge_101 : decode cX11_judge 101 = .ok (.imul, 1) := by decide +kernel
theorem dX11_judge_102 : decode cX11_judge 102 = .ok (.iload 5, 2) := by decide +kernel
theorem dX11_judge_104 : decode cX11_judge 104 = .ok (.iadd, 1) := by decide +kernel
theorem dX11_judge_105 : decode cX11_judge 105 = .ok (.laload, 1) := by decide +kernel
theorem dX11_judge_106 : decode cX11_judge 106 = .ok (.l2i, 1) := by decide +kernel
theorem dX11_judge_107 : decode cX11_judge 107 = .ok (.invokevirtual 431, 3) := by decide +kernel
theorem dX11_judge_110 : decode cX11_judge 110 = .ok (.goto 6, 3) := by decide +kernel
theorem dX11_judge_113 : decode cX11_judge 113 = .ok (.iload 5, 2) := by decide +kernel
theorem dX11_judge_115 : decode cX11_judge 115 = .ok (.istore_n 3, 1) := by decide +kernel
theorem dX11_judge_116 : decode cX11_judge 116 = .ok (.iinc 5 1, 3) := by decide +kernel
theorem dX11_judge_119 : decode cX11_judge 119 = .ok (.goto (-65), 3) := by decide +kernel
theorem dX11_judge_122 : decode cX11_judge 122 = .ok (.aload_n 0, 1) := by decide +kernel
theorem dX11_judge_123 : decode cX11_judge 123 = .ok (.invokevirtual 434, 3) := by decide +kernel
theorem dX11_judge_126 : decode cX11_judge 126 = .ok (.istore 5, 2) := by decide +kernel
theorem dX11_judge_128 : decode cX11_judge 128 = .ok (.aload_n 0, 1) := by decide +kernel
theorem dX11_judge_129 : decode cX11_judge 129 = .ok (.invokevirtual 437, 3) := by decide +kernel
theorem dX11_judge_13 : decode cX11_judge 13 = .ok (.ifCond .ne 20, 3) := by decide +kernel
theorem dX11_judge_132 : decode cX11_judge 132 = .ok (.istore 6, 2) := by decide +kernel
theorem dX11_judge_134 : decode cX11_judge 134 = .ok (.aload_n 0, 1) := by decide +kernel
theorem dX11_judge_135 : decode cX11_judge 135 = .ok (.invokevirtual 440, 3) := by decide +kernel
theorem dX11_judge_138 : decode cX11_judge 138 = .ok (.iload_n 2, 1) := by decide +kernel
theorem dX11_judge_139 : decode cX11_judge 139 = .ok (.ifCond .ne 7, 3) := by decide +kernel
theorem dX11_judge_142 : decode cX11_judge 142 = .ok (.iload_n 3, 1) := by decide +kernel
theorem dX11_judge_143 : decode cX11_judge 143 = .ok (.goto 25, 3) := by decide +kernel
theorem dX11_judge_146 : decode cX11_judge 146 = .ok (.iload_n 2, 1) := by decide +kernel
theorem dX11_judge_147 : decode cX11_judge 147 = .ok (.iconst 1, 1) := by decide +kernel
theorem dX11_judge_148 : decode cX11_judge 148 = .ok (.if_icmp .ne 8, 3) := by decide +kernel
theorem dX11_judge_151 : decode cX11_judge 151 = .ok (.iload 4, 2) := by decide +kernel
theorem dX11_judge_153 : decode cX11_judge 153 = .ok (.goto 15, 3) := by decide +kernel
theorem dX11_judge_156 : decode cX11_judge 156 = .ok (.iload_n 2, 1) := by decide +kernel
theorem dX11_judge_157 : decode cX11_judge 157 = .ok (.iconst 2, 1) := by decide +kernel
theorem dX11_judge_158 : decode cX11_judge 158 = .ok (.if_icmp .ne 8, 3) := by decide +kernel
theorem dX11_judge_16 : decode cX11_judge 16 = .ok (.iload_n 2, 1) := by decide +kernel
theorem dX11_judge_161 : decode cX11_judge 161 = .ok (.iload 5, 2) := by decide +kernel
theorem dX11_judge_163 : decode cX11_judge 163 = .ok (.goto 5, 3) := by decide +kernel
theorem dX11_judge_166 : decode cX11_judge 166 = .ok (.iload 6, 2) := by decide +kernel
theorem dX11_judge_168 : decode cX11_judge 168 = .ok (.ireturn, 1) := by decide +kernel
theorem dX11_judge_17 : decode cX11_judge 17 = .ok (.i2l, 1) := by decide +kernel
theorem dX11_judge_18 : decode cX11_judge 18 = .ok (.lconst 0, 1) := by decide +kernel
theorem dX11_judge_19 : decode cX11_judge 19 = .ok (.ldc2_w 423, 3) := by decide +kernel
theorem dX11_judge_2 : decode cX11_judge 2 = .ok (.iload_n 1, 1) := by decide +kernel
theorem dX11_judge_22 : decode cX11_judge 22 = .ok (.invokestatic 131, 3) := by decide +kernel
theorem dX11_judge_25 : decode cX11_judge 25 = .ok (.ifCond .ne 8, 3) := by decide +kernel
theorem dX11_judge_28 : decode cX11_judge 28 = .ok (.aload_n 0, 1) := by decide +kernel
theorem dX11_judge_29 : decode cX11_judge 29 = .ok (.iconst 3, 1) := by decide +kernel
theorem dX11_judge_3 : decode cX11_judge 3 = .ok (.invokevirtual 420, 3) := by decide +kernel
theorem dX11_judge_30 : decode cX11_judge 30 = .ok (.putfield 70, 3) := by decide +kernel
theorem dX11_judge_33 : decode cX11_judge 33 = .ok (.aload_n 0, 1) := by decide +kernel
theorem dX11_judge_34 : decode cX11_judge 34 = .ok (.getfield 70, 3) := by decide +kernel
theorem dX11_judge_37 : decode cX11_judge 37 = .ok (.ifCond .le 5, 3) := by decide +kernel
theorem dX11_judge_40 : decode cX11_judge 40 = .ok (.iconst 0, 1) := by decide +kernel
theorem dX11_judge_41 : decode cX11_judge 41 = .ok (.ireturn, 1) := by decide +kernel
theorem dX11_judge_42 : decode cX11_judge 42 = .ok (.aload_n 0, 1) := by decide +kernel
theorem dX11_judge_43 : decode cX11_judge 43 = .ok (.invokevirtual 425, 3) := by decide +kernel
theorem dX11_judge_46 : decode cX11_judge 46 = .ok (.iconst (-1), 1) := by decide +kernel
theorem dX11_judge_47 : decode cX11_judge 47 = .ok (.istore_n 3, 1) := by decide +kernel
theorem dX11_judge_48 : decode cX11_judge 48 = .ok (.iconst 0, 1) := by decide +kernel
theorem dX11_judge_49 : decode cX11_judge 49 = .ok (.istore 4, 2) := by decide +kernel
theorem dX11_judge_51 : decode cX11_judge 51 = .ok (.iconst 0, 1) := by decide +kernel
theorem dX11_judge_52 : decode cX11_judge 52 = .ok (.istore 5, 2) := by decide +kernel
theorem dX11_judge_54 : decode cX11_judge 54 = .ok (.iload 5, 2) := by decide +kernel
theorem dX11_judge_56 : decode cX11_judge 56 = .ok (.aload_n 0, 1) := by decide +kernel
theorem dX11_judge_57 : decode cX11_judge 57 = .ok (.getfield 64, 3) := by decide +kernel
theorem dX11_judge_6 : decode cX11_judge 6 = .ok (.putfield 70, 3) := by decide +kernel
theorem dX11_judge_60 : decode cX11_judge 60 = .ok (.iload_n 1, 1) := by decide +kernel
theorem dX11_judge_61 : decode cX11_judge 61 = .ok (.iaload, 1) := by decide +kernel
theorem dX11_judge_62 : decode cX11_judge 62 = .ok (.if_icmp .ge 60, 3) := by decide +kernel
theorem dX11_judge_65 : decode cX11_judge 65 = .ok (.iload_n 3, 1) := by decide +kernel
theorem dX11_judge_66 : decode cX11_judge 66 = .ok (.iconst (-1), 1) := by decide +kernel
theorem dX11_judge_67 : decode cX11_judge 67 = .ok (.if_icmp .ne 55, 3) := by decide +kernel
theorem dX11_judge_70 : decode cX11_judge 70 = .ok (.aload_n 0, 1) := by decide +kernel
theorem dX11_judge_71 : decode cX11_judge 71 = .ok (.aload_n 0, 1) := by decide +kernel
theorem dX11_judge_72 : decode cX11_judge 72 = .ok (.getfield 67, 3) := by decide +kernel
theorem dX11_judge_75 : decode cX11_judge 75 = .ok (.bipush 30, 2) := by decide +kernel
theorem dX11_judge_77 : decode cX11_judge 77 = .ok (.iload_n 1, 1) := by decide +kernel
theorem dX11_judge_78 : decode cX11_judge 78 = .ok (.imul, 1) := by decide +kernel
theorem dX11_judge_79 : decode cX11_judge 79 = .ok (.iload 5, 2) := by decide +kernel
theorem dX11_judge_81 : decode cX11_judge 81 = .ok (.iadd, 1) := by decide +kernel
theorem dX11_judge_82 : decode cX11_judge 82 = .ok (.laload, 1) := by decide +kernel
theorem dX11_judge_83 : decode cX11_judge 83 = .ok (.invokevirtual 428, 3) := by decide +kernel
theorem dX11_judge_86 : decode cX11_judge 86 = .ok (.istore 4, 2) := by decide +kernel
theorem dX11_judge_88 : decode cX11_judge 88 = .ok (.iload 4, 2) := by decide +kernel
theorem dX11_judge_9 : decode cX11_judge 9 = .ok (.aload_n 0, 1) := by decide +kernel
theorem dX11_judge_90 : decode cX11_judge 90 = .ok (.ifCond .ne 23, 3) := by decide +kernel
theorem dX11_judge_93 : decode cX11_judge 93 = .ok (.aload_n 0, 1) := by decide +kernel
theorem dX11_judge_94 : decode cX11_judge 94 = .ok (.aload_n 0, 1) := by decide +kernel
theorem dX11_judge_95 : decode cX11_judge 95 = .ok (.getfield 67, 3) := by decide +kernel
theorem dX11_judge_98 : decode cX11_judge 98 = .ok (.bipush 30, 2) := by decide +kernel
theorem dX11_laysComes_0 : decode cX11_laysComes 0 = .ok (.aload_n 0, 1) := by decide +kernel
theorem dX11_laysComes_1 : decode cX11_laysComes 1 = .ok (.invokevirtual 493, 3) := by decide +kernel
theorem dX11_laysComes_10 : decode cX11_laysComes 10 = .ok (.iload_n 1, 1) := by decide +kernel
theorem dX11_laysComes_11 : decode cX11_laysComes 11 = .ok (.ishl, 1) := by decide +kernel
theorem dX11_laysComes_12 : decode cX11_laysComes 12 = .ok (.iastore, 1) := by decide +kernel
theorem dX11_laysComes_13 : decode cX11_laysComes 13 = .ok (.iconst 1, 1) := by decide +kernel
theorem dX11_laysComes_14 : decode cX11_laysComes 14 = .ok (.istore_n 2, 1) := by decide +kernel
theorem dX11_laysComes_15 : decode cX11_laysComes 15 = .ok (.iload_n 2, 1) := by decide +kernel
theorem dX11_laysComes_16 : decode cX11_laysComes 16 = .ok (.bipush 60, 2) := by decide +kernel
theorem dX11_laysComes_18 : decode cX11_laysComes 18 = .ok (.if_icmp .gt 36, 3) := by decide +kernel
theorem dX11_laysComes_21 : decode cX11_laysComes 21 = .ok (.aload_n 0, 1) := by decide +kernel
theorem dX11_laysComes_22 : decode cX11_laysComes 22 = .ok (.getfield 45, 3) := by decide +kernel
theorem dX11_laysComes_25 : decode cX11_laysComes 25 = .ok (.iload_n 2, 1) := by decide +kernel
theorem dX11_laysComes_26 : decode cX11_laysComes 26 = .ok (.aload_n 0, 1) := by decide +kernel
theorem dX11_laysComes_27 : decode cX11_laysComes 27 = .ok (.aload_n 0, 1) := by decide +kernel
theorem dX11_laysComes_28 : decode cX11_laysComes 28 = .ok (.getfield 45, 3) := by decide +kernel
theorem dX11_laysComes_31 : decode cX11_laysComes 31 = .ok (.iload_n 2, 1) := by decide +kernel
theorem dX11_laysComes_32 : decode cX11_laysComes 32 = .ok (.iconst 1, 1) := by decide +kernel
theorem dX11_laysComes_33 : decode cX11_laysComes 33 = .ok (.isub, 1) := by decide +kernel
theorem dX11_laysComes_34 : decode cX11_laysComes 34 = .ok (.iaload, 1) := by decide +kernel
theorem dX11_laysComes_35 : decode cX11_laysComes 35 = .ok (.invokevirtual 496, 3) := by decide +kernel
theorem dX11_laysComes_38 : decode cX11_laysComes 38 = .ok (.aload_n 0, 1) := by decide +kernel
theorem dX11_laysComes_39 : decode cX11_laysComes 39 = .ok (.getfield 42, 3) := by decide +kernel
theorem dX11_laysComes_4 : decode cX11_laysComes 4 = .ok (.aload_n 0, 1) := by decide +kernel
theorem dX11_laysComes_42 : decode cX11_laysComes 42 = .ok (.iload_n 2, 1) := by decide +kernel
theorem dX11_laysComes_43 : decode cX11_laysComes 43 = .ok (.iaload, 1) := by decide +kernel
theorem dX11_laysComes_44 : decode cX11_laysComes 44 = .ok (.iconst (-1), 1) := by decide +kernel
theorem dX11_laysComes_45 : decode cX11_laysComes 45 = .ok (.ixor, 1) := by decide +kernel
theorem dX11_laysComes_46 : decode cX11_laysComes 46 = .ok (.iand, 1) := by decide +kernel
theorem dX11_laysComes_47 : decode cX11_laysComes 47 = .ok (.iastore, 1) := by decide +kernel
theorem dX11_laysComes_48 : decode cX11_laysComes 48 = .ok (.iinc 2 1, 3) := by decide +kernel
theorem dX11_laysComes_5 : decode cX11_laysComes 5 = .ok (.getfield 45, 3) := by decide +kernel
theorem dX11_laysComes_51 : decode cX11_laysComes 51 = .ok (.goto (-36), 3) := by decide +kernel
theorem dX11_laysComes_54 : decode cX11_laysComes 54 = .ok (.return_, 1) := by decide +kernel
theorem dX11_laysComes_8 : decode cX11_laysComes 8 = .ok (.iconst 0, 1) := by decide +kernel
theorem dX11_laysComes_9 : decode cX11_laysComes 9 = .ok (.iconst 1, 1) := by decide +kernel
theorem dX11_laysFalling_0 : decode cX11_laysFalling 0 = .ok (.aload_n 0, 1) := by decide +kernel
theorem dX11_laysFalling_1 : decode cX11_laysFalling 1 = .ok (.invokevirtual 425, 3) := by decide +kernel
theorem dX11_laysFalling_10 : decode cX11_laysFalling 10 = .ok (.iastore, 1) := by decide +kernel
theorem dX11_laysFalling_11 : decode cX11_laysFalling 11 = .ok (.iconst 1, 1) := by decide +kernel
theorem dX11_laysFalling_12 : decode cX11_laysFalling 12 = .ok (.istore_n 1, 1) := by decide +kernel
theorem dX11_laysFalling_13 : decode cX11_laysFalling 13 = .ok (.iload_n 1, 1) := by decide +kernel
theorem dX11_laysFalling_14 : decode cX11_laysFalling 14 = .ok (.bipush 60, 2) := by decide +kernel
theorem dX11_laysFalling_16 : decode cX11_laysFalling 16 = .ok (.if_icmp .gt 23, 3) := by decide +kernel
theorem dX11_laysFalling_19 : decode cX11_laysFalling 19 = .ok (.aload_n 0, 1) := by decide +kernel
theorem dX11_laysFalling_20 : decode cX11_laysFalling 20 = .ok (.invokevirtual 401, 3) := by decide +kernel
theorem dX11_laysFalling_23 : decode cX11_laysFalling 23 = .ok (.aload_n 0, 1) := by decide +kernel
theorem dX11_laysFalling_24 : decode cX11_laysFalling 24 = .ok (.getfield 42, 3) := by decide +kernel
theorem dX11_laysFalling_27 : decode cX11_laysFalling 27 = .ok (.iload_n 1, 1) := by decide +kernel
theorem dX11_laysFalling_28 : decode cX11_laysFalling 28 = .ok (.aload_n 0, 1) := by decide +kernel
theorem dX11_laysFalling_29 : decode cX11_laysFalling 29 = .ok (.getfield 342, 3) := by decide +kernel
theorem dX11_laysFalling_32 : decode cX11_laysFalling 32 = .ok (.iastore, 1) := by decide +kernel
theorem dX11_laysFalling_33 : decode cX11_laysFalling 33 = .ok (.iinc 1 1, 3) := by decide +kernel
theorem dX11_laysFalling_36 : decode cX11_laysFalling 36 = .ok (.goto (-23), 3) := by decide +kernel
theorem dX11_laysFalling_39 : decode cX11_laysFalling 39 = .ok (.aload_n 0, 1) := by decide +kernel
theorem dX11_laysFalling_4 : decode cX11_laysFalling 4 = .ok (.aload_n 0, 1) := by decide +kernel
theorem dX11_laysFalling_40 : decode cX11_laysFalling 40 = .ok (.invokevirtual 440, 3) := by decide +kernel
theorem dX11_laysFalling_43 : decode cX11_laysFalling 43 = .ok (.return_, 1) := by decide +kernel
theorem dX11_laysFalling_5 : decode cX11_laysFalling 5 = .ok (.getfield 42, 3) := by decide +kernel
theorem dX11_laysFalling_8 : decode cX11_laysFalling 8 = .ok (.iconst 0, 1) := by decide +kernel
theorem dX11_laysFalling_9 : decode cX11_laysFalling 9 = .ok (.iconst 0, 1) := by decide +kernel
theorem dX11_laysWait_0 : decode cX11_laysWait 0 = .ok (.aload_n 0, 1) := by decide +kernel
theorem dX11_laysWait_1 : decode cX11_laysWait 1 = .ok (.invokevirtual 425, 3) := by decide +kernel
theorem dX11_laysWait_10 : decode cX11_laysWait 10 = .ok (.iaload, 1) := by decide +kernel
theorem dX11_laysWait_100 : decode cX11_laysWait 100 = .ok (.iload 6, 2) := by decide +kernel
theorem dX11_laysWait_102 : decode cX11_laysWait 102 = .ok (.aload_n 0, 1) := by decide +kernel
theorem dX11_laysWait_103 : decode cX11_laysWait 103 = .ok (.invokevirtual 280, 3) := by decide +kernel
theorem dX11_laysWait_106 : decode cX11_laysWait 106 = .ok (.if_icmp .ge 58, 3) := by decide +kernel
theorem dX11_laysWait_109 : decode cX11_laysWait 109 = .ok (.aload_n 0, 1) := by decide +kernel
theorem dX11_laysWait_11 : decode cX11_laysWait 11 = .ok (.istore 5, 2) := by decide +kernel
theorem dX11_laysWait_110 : decode cX11_laysWait 110 = .ok (.dup, 1) := by decide +kernel
theorem dX11_laysWait_111 : decode cX11_laysWait 111 = .ok (.getfield 471, 3) := by decide +kernel
theorem dX11_laysWait_114 : decode cX11_laysWait 114 = .ok (.aload_n 0, 1) := by decide +kernel
theorem dX11_laysWait_115 : decode cX11_laysWait 115 = .ok (.getfield 339, 3) := by decide +kernel
theorem dX11_laysWait_118 : decode cX11_laysWait 118 = .ok (.iload 6, 2) := by decide +kernel
theorem dX11_laysWait_120 : decode cX11_laysWait 120 = .ok (.invokestatic 323, 3) := by decide +kernel
theorem dX11_laysWait_123 : decode cX11_laysWait 123 = .ok (.ifCond .eq 30, 3) := by decide +kernel
theorem dX11_laysWait_126 : decode cX11_laysWait 126 = .ok (.aload_n 0, 1) := by decide +kernel
theorem dX11_laysWait_127 : decode cX11_laysWait 127 = .ok (.getfield 9, 3) := by decide +kernel
theorem dX11_laysWait_13 : decode cX11_laysWait 13 = .ok (.iconst 0, 1) := by decide +kernel
theorem dX11_laysWait_130 : decode cX11_laysWait 130 = .ok (.bipush 16, 2) := by decide +kernel
theorem dX11_laysWait_132 : decode cX11_laysWait 132 = .ok (.iload 6, 2) := by decide +kernel
theorem dX11_laysWait_134 : decode cX11_laysWait 134 = .ok (.iadd, 1) := by decide +kernel
theorem dX11_laysWait_135 : decode cX11_laysWait 135 = .ok (.iaload, 1) := by decide +kernel
theorem dX11_laysWait_136 : decode cX11_laysWait 136 = .ok (.iload_n 2, 1) := by decide +kernel
theorem dX11_laysWait_137 : decode cX11_laysWait 137 = .ok (.if_icmp .ne 16, 3) := by decide +kernel
theorem dX11_laysWait_14 : decode cX11_laysWait 14 = .ok (.istore 6, 2) := by decide +kernel
theorem dX11_laysWait_140 : decode cX11_laysWait 140 = .ok (.aload_n 0, 1) := by decide +kernel
theorem dX11_laysWait_141 : decode cX11_laysWait 141 = .ok (.getfield 9, 3) := by decide +kernel
theorem dX11_laysWait_144 : decode cX11_laysWait 144 = .ok (.bipush 45, 2) := by decide +kernel
theorem dX11_laysWait_146 : decode cX11_laysWait 146 = .ok (.iload 6, 2) := by decide +kernel
theorem dX11_laysWait_148 : decode cX11_laysWait 148 = .ok (.iadd, 1) := by decide +kernel
theorem dX11_laysWait_149 : decode cX11_laysWait 149 = .ok (.iaload, 1) := by decide +kernel
theorem dX11_laysWait_150 : decode cX11_laysWait 150 = .ok (.goto 4, 3) := by decide +kernel
theorem dX11_laysWait_153 : decode cX11_laysWait 153 = .ok (.iconst 0, 1) := by decide +kernel
theorem dX11_laysWait_154 : decode cX11_laysWait 154 = .ok (.iadd, 1) := by decide +kernel
theorem dX11_laysWait_155 : decode cX11_laysWait 155 = .ok (.putfield 471, 3) := by decide +kernel
theorem dX11_laysWait_158 : decode cX11_laysWait 158 = .ok (.iinc 6 1, 3) := by decide +kernel
theorem dX11_laysWait_16 : decode cX11_laysWait 16 = .ok (.iload 6, 2) := by decide +kernel
theorem dX11_laysWait_161 : decode cX11_laysWait 161 = .ok (.goto (-61), 3) := by decide +kernel
theorem dX11_laysWait_164 : decode cX11_laysWait 164 = .ok (.aload_n 0, 1) := by decide +kernel
theorem dX11_laysWait_165 : decode cX11_laysWait 165 = .ok (.invokevirtual 440, 3) := by decide +kernel
theorem dX11_laysWait_168 : decode cX11_laysWait 168 = .ok (.return_, 1) := by decide +kernel
theorem dX11_laysWait_18 : decode cX11_laysWait 18 = .ok (.iload 4, 2) := by decide +kernel
theorem dX11_laysWait_20 : decode cX11_laysWait 20 = .ok (.if_icmp .ge 13, 3) := by decide +kernel
theorem dX11_laysWait_23 : decode cX11_laysWait 23 = .ok (.aload_n 0, 1) := by decide +kernel
theorem dX11_laysWait_24 : decode cX11_laysWait 24 = .ok (.invokevirtual 401, 3) := by decide +kernel
theorem dX11_laysWait_27 : decode cX11_laysWait 27 = .ok (.iinc 6 1, 3) := by decide +kernel
theorem dX11_laysWait_30 : decode cX11_laysWait 30 = .ok (.goto (-14), 3) := by decide +kernel
theorem dX11_laysWait_33 : decode cX11_laysWait 33 = .ok (.aload_n 0, 1) := by decide +kernel
theorem dX11_laysWait_34 : decode cX11_laysWait 34 = .ok (.iconst (-1), 1) := by decide +kernel
theorem dX11_laysWait_35 : decode cX11_laysWait 35 = .ok (.putfield 468, 3) := by decide +kernel
theorem dX11_laysWait_38 : decode cX11_laysWait 38 = .ok (.aload_n 0, 1) := by decide +kernel
theorem dX11_laysWait_39 : decode cX11_laysWait 39 = .ok (.iconst 0, 1) := by decide +kernel
theorem dX11_laysWait_4 : decode cX11_laysWait 4 = .ok (.aload_n 0, 1) := by decide +kernel
theorem dX11_laysWait_40 : decode cX11_laysWait 40 = .ok (.putfield 471, 3) := by decide +kernel
theorem dX11_laysWait_43 : decode cX11_laysWait 43 = .ok (.aload_n 0, 1) := by decide +kernel
theorem dX11_laysWait_44 : decode cX11_laysWait 44 = .ok (.getfield 9, 3) := by decide +kernel
theorem dX11_laysWait_47 : decode cX11_laysWait 47 = .ok (.iload_n 2, 1) := by decide +kernel
theorem dX11_laysWait_48 : decode cX11_laysWait 48 = .ok (.iload_n 3, 1) := by decide +kernel
theorem dX11_laysWait_49 : decode cX11_laysWait 49 = .ok (.invokestatic 216, 3) := by decide +kernel
theorem dX11_laysWait_5 : decode cX11_laysWait 5 = .ok (.getfield 9, 3) := by decide +kernel
theorem dX11_laysWait_52 : decode cX11_laysWait 52 = .ok (.ifCond .eq 112, 3) := by decide +kernel
theorem dX11_laysWait_55 : decode cX11_laysWait 55 = .ok (.aload_n 0, 1) := by decide +kernel
theorem dX11_laysWait_56 : decode cX11_laysWait 56 = .ok (.iload_n 1, 1) := by decide +kernel
theorem dX11_laysWait_57 : decode cX11_laysWait 57 = .ok (.iload_n 2, 1) := by decide +kernel
theorem dX11_laysWait_58 : decode cX11_laysWait 58 = .ok (.iload_n 3, 1) := by decide +kernel
theorem dX11_laysWait_59 : decode cX11_laysWait 59 = .ok (.invokevirtual 386, 3) := by decide +kernel
theorem dX11_laysWait_62 : decode cX11_laysWait 62 = .ok (.pop, 1) := by decide +kernel
theorem dX11_laysWait_63 : decode cX11_laysWait 63 = .ok (.aload_n 0, 1) := by decide +kernel
theorem dX11_laysWait_64 : decode cX11_laysWait 64 = .ok (.iload_n 1, 1) := by decide +kernel
theorem dX11_laysWait_65 : decode cX11_laysWait 65 = .ok (.iconst 1, 1) := by decide +kernel
theorem dX11_laysWait_66 : decode cX11_laysWait 66 = .ok (.invokevirtual 283, 3) := by decide +kernel
theorem dX11_laysWait_69 : decode cX11_laysWait 69 = .ok (.ifCond .eq 14, 3) := by decide +kernel
theorem dX11_laysWait_72 : decode cX11_laysWait 72 = .ok (.aload_n 0, 1) := by decide +kernel
theorem dX11_laysWait_73 : decode cX11_laysWait 73 = .ok (.aload_n 0, 1) := by decide +kernel
theorem dX11_laysWait_74 : decode cX11_laysWait 74 = .ok (.invokevirtual 455, 3) := by decide +kernel
theorem dX11_laysWait_77 : decode cX11_laysWait 77 = .ok (.invokevirtual 355, 3) := by decide +kernel
theorem dX11_laysWait_8 : decode cX11_laysWait 8 = .ok (.bipush 40, 2) := by decide +kernel
theorem dX11_laysWait_80 : decode cX11_laysWait 80 = .ok (.goto (-17), 3) := by decide +kernel
theorem dX11_laysWait_83 : decode cX11_laysWait 83 = .ok (.aload_n 0, 1) := by decide +kernel
theorem dX11_laysWait_84 : decode cX11_laysWait 84 = .ok (.aload_n 0, 1) := by decide +kernel
theorem dX11_laysWait_85 : decode cX11_laysWait 85 = .ok (.getfield 9, 3) := by decide +kernel
theorem dX11_laysWait_88 : decode cX11_laysWait 88 = .ok (.bipush 40, 2) := by decide +kernel
theorem dX11_laysWait_90 : decode cX11_laysWait 90 = .ok (.iaload, 1) := by decide +kernel
theorem dX11_laysWait_91 : decode cX11_laysWait 91 = .ok (.iload 5, 2) := by decide +kernel
theorem dX11_laysWait_93 : decode cX11_laysWait 93 = .ok (.isub, 1) := by decide +kernel
theorem dX11_laysWait_94 : decode cX11_laysWait 94 = .ok (.putfield 468, 3) := by decide +kernel
theorem dX11_laysWait_97 : decode cX11_laysWait 97 = .ok (.iconst 0, 1) := by decide +kernel
theorem dX11_laysWait_98 : decode cX11_laysWait 98 = .ok (.istore 6, 2) := by decide +kernel
theorem dX11_leastWait_0 : decode cX11_leastWait 0 = .ok (.iconst 0, 1) := by decide +kernel
theorem dX11_leastWait_1 : decode cX11_leastWait 1 = .ok (.istore 5, 2) := by decide +kernel
theorem dX11_leastWait_10 : decode cX11_leastWait 10 = .ok (.aload_n 0, 1) := by decide +kernel
theorem dX11_leastWait_11 : decode cX11_leastWait 11 = .ok (.iload_n 1, 1) := by decide +kernel
theorem dX11_leastWait_12 : decode cX11_leastWait 12 = .ok (.iload_n 2, 1) := by decide +kernel
theorem dX11_leastWait_13 : decode cX11_leastWait 13 = .ok (.iload_n 3, 1) := by decide +kernel
theorem dX11_leastWait_14 : decode cX11_leastWait 14 = .ok (.iload 5, 2) := by decide +kernel
theorem dX11_leastWait_16 : decode cX11_leastWait 16 = .ok (.invokevirtual 479, 3) := by decide +kernel
theorem dX11_leastWait_19 : decode cX11_leastWait 19 = .ok (.aload_n 0, 1) := by decide +kernel
theorem dX11_leastWait_20 : decode cX11_leastWait 20 = .ok (.getfield 468, 3) := by decide +kernel
theorem dX11_leastWait_23 : decode cX11_leastWait 23 = .ok (.iload 4, 2) := by decide +kernel
theorem dX11_leastWait_25 : decode cX11_leastWait 25 = .ok (.if_icmp .ne 6, 3) := by decide +kernel
theorem dX11_leastWait_28 : decode cX11_leastWait 28 = .ok (.iload 5, 2) := by decide +kernel
theorem dX11_leastWait_3 : decode cX11_leastWait 3 = .ok (.iload 5, 2) := by decide +kernel
theorem dX11_leastWait_30 : decode cX11_leastWait 30 = .ok (.ireturn, 1) := by decide +kernel
theorem dX11_leastWait_31 : decode cX11_leastWait 31 = .ok (.iinc 5 1, 3) := by decide +kernel
theorem dX11_leastWait_34 : decode cX11_leastWait 34 = .ok (.goto (-31), 3) := by decide +kernel
theorem dX11_leastWait_37 : decode cX11_leastWait 37 = .ok (.iconst (-1), 1) := by decide +kernel
theorem dX11_leastWait_38 : decode cX11_leastWait 38 = .ok (.ireturn, 1) := by decide +kernel
theorem dX11_leastWait_5 : decode cX11_leastWait 5 = .ok (.bipush 60, 2) := by decide +kernel
theorem dX11_leastWait_7 : decode cX11_leastWait 7 = .ok (.if_icmp .gt 30, 3) := by decide +kernel
theorem dX11_perform_0 : decode cX11_perform 0 = .ok (.aload_n 0, 1) := by decide +kernel
theorem dX11_perform_1 : decode cX11_perform 1 = .ok (.aload_n 0, 1) := by decide +kernel
theorem dX11_perform_10 : decode cX11_perform 10 = .ok (.getfield 70, 3) := by decide +kernel
theorem dX11_perform_13 : decode cX11_perform 13 = .ok (.ifCond .le 5, 3) := by decide +kernel
theorem dX11_perform_16 : decode cX11_perform 16 = .ok (.iconst 0, 1) := by decide +kernel
theorem dX11_perform_17 : decode cX11_perform 17 = .ok (.ireturn, 1) := by decide +kernel
theorem dX11_perform_18 : decode cX11_perform 18 = .ok (.iconst 0, 1) := by decide +kernel
theorem dX11_perform_19 : decode cX11_perform 19 = .ok (.istore_n 2, 1) := by decide +kernel
theorem dX11_perform_2 : decode cX11_perform 2 = .ok (.iload_n 1, 1) := by decide +kernel
theorem dX11_perform_20 : decode cX11_perform 20 = .ok (.iload_n 2, 1) := by decide +kernel
theorem dX11_perform_21 : decode cX11_perform 21 = .ok (.aload_n 0, 1) := by decide +kernel
theorem dX11_perform_22 : decode cX11_perform 22 = .ok (.getfield 64, 3) := by decide +kernel
theorem dX11_perform_25 : decode cX11_perform 25 = .ok (.iload_n 1, 1) := by decide +kernel
theorem dX11_perform_26 : decode cX11_perform 26 = .ok (.iaload, 1) := by decide +kernel
theorem dX11_perform_27 : decode cX11_perform 27 = .ok (.if_icmp .ge 47, 3) := by decide +kernel
theorem dX11_perform_3 : decode cX11_perform 3 = .ok (.invokevirtual 420, 3) := by decide +kernel
theorem dX11_perform_30 : decode cX11_perform 30 = .ok (.aload_n 0, 1) := by decide +kernel
theorem dX11_perform_31 : decode cX11_perform 31 = .ok (.aload_n 0, 1) := by decide +kernel
theorem dX11_perform_32 : decode cX11_perform 32 = .ok (.getfield 67, 3) := by decide +kernel
theorem dX11_perform_35 : decode cX11_perform 35 = .ok (.bipush 30, 2) := by decide +kernel
theorem dX11_perform_37 : decode cX11_perform 37 = .ok (.iload_n 1, 1) := by decide +kernel
theorem dX11_perform_38 : decode cX11_perform 38 = .ok (.imul, 1) := by decide +kernel
theorem dX11_perform_39 : decode cX11_perform 39 = .ok (.iload_n 2, 1) := by decide +kernel
theorem dX11_perform_40 : decode cX11_perform 40 = .ok (.iadd, 1) := by decide +kernel
theorem dX11_perform_41 : decode cX11_perform 41 = .ok (.laload, 1) := by decide +kernel
theorem dX11_perform_42 : decode cX11_perform 42 = .ok (.invokevirtual 428, 3) := by decide +kernel
theorem dX11_perform_45 : decode cX11_perform 45 = .ok (.ifCond .ne 29, 3) := by decide +kernel
theorem dX11_perform_48 : decode cX11_perform 48 = .ok (.aload_n 0, 1) := by decide +kernel
theorem dX11_perform_49 : decode cX11_perform 49 = .ok (.invokevirtual 383, 3) := by decide +kernel
theorem dX11_perform_52 : decode cX11_perform 52 = .ok (.aload_n 0, 1) := by decide +kernel
theorem dX11_perform_53 : decode cX11_perform 53 = .ok (.aload_n 0, 1) := by decide +kernel
theorem dX11_perform_54 : decode cX11_perform 54 = .ok (.getfield 67, 3) := by decide +kernel
theorem dX11_perform_57 : decode cX11_perform 57 = .ok (.bipush 30, 2) := by decide +kernel
theorem dX11_perform_59 : decode cX11_perform 59 = .ok (.iload_n 1, 1) := by decide +kernel
theorem dX11_perform_6 : decode cX11_perform 6 = .ok (.putfield 70, 3) := by decide +kernel
theorem dX11_perform_60 : decode cX11_perform 60 = .ok (.imul, 1) := by decide +kernel
theorem dX11_perform_61 : decode cX11_perform 61 = .ok (.iload_n 2, 1) := by decide +kernel
theorem dX11_perform_62 : decode cX11_perform 62 = .ok (.iadd, 1) := by decide +kernel
theorem dX11_perform_63 : decode cX11_perform 63 = .ok (.laload, 1) := by decide +kernel
theorem dX11_perform_64 : decode cX11_perform 64 = .ok (.l2i, 1) := by decide +kernel
theorem dX11_perform_65 : decode cX11_perform 65 = .ok (.invokevirtual 431, 3) := by decide +kernel
theorem dX11_perform_68 : decode cX11_perform 68 = .ok (.iinc 2 1, 3) := by decide +kernel
theorem dX11_perform_71 : decode cX11_perform 71 = .ok (.goto (-51), 3) := by decide +kernel
theorem dX11_perform_74 : decode cX11_perform 74 = .ok (.iload_n 2, 1) := by decide +kernel
theorem dX11_perform_75 : decode cX11_perform 75 = .ok (.ireturn, 1) := by decide +kernel
theorem dX11_perform_9 : decode cX11_perform 9 = .ok (.aload_n 0, 1) := by decide +kernel
theorem dX11_place_0 : decode cX11_place 0 = .ok (.aload_n 0, 1) := by decide +kernel
theorem dX11_place_1 : decode cX11_place 1 = .ok (.aload_n 0, 1) := by decide +kernel
theorem dX11_place_10 : decode cX11_place 10 = .ok (.iconst 1, 1) := by decide +kernel
theorem dX11_place_100 : decode cX11_place 100 = .ok (.aload_n 0, 1) := by decide +kernel
theorem dX11_place_101 : decode cX11_place 101 = .ok (.getfield 468, 3) := by decide +kernel
theorem dX11_place_104 : decode cX11_place 104 = .ok (.iload 4, 2) := by decide +kernel
theorem dX11_place_106 : decode cX11_place 106 = .ok (.if_icmp .gt 18, 3) := by decide +kernel
theorem dX11_place_109 : decode cX11_place 109 = .ok (.goto 30, 3) := by decide +kernel
theorem dX11_place_11 : decode cX11_place 11 = .ok (.goto 17, 3) := by decide +kernel
theorem dX11_place_112 : decode cX11_place 112 = .ok (.aload_n 0, 1) := by decide +kernel
theorem dX11_place_113 : decode cX11_place 113 = .ok (.getfield 468, 3) := by decide +kernel
theorem dX11_place_116 : decode cX11_place 116 = .ok (.iload 4, 2) := by decide +kernel
theorem dX11_place_118 : decode cX11_place 118 = .ok (.if_icmp .lt 6, 3) := by decide +kernel
theorem dX11_place_121 : decode cX11_place 121 = .ok (.goto 18, 3) := by decide +kernel
theorem dX11_place_124 : decode cX11_place 124 = .ok (.bipush 10, 2) := by decide +kernel
theorem dX11_place_126 : decode cX11_place 126 = .ok (.iload 5, 2) := by decide +kernel
theorem dX11_place_128 : decode cX11_place 128 = .ok (.imul, 1) := by decide +kernel
theorem dX11_place_129 : decode cX11_place 129 = .ok (.iload 6, 2) := by decide +kernel
theorem dX11_place_131 : decode cX11_place 131 = .ok (.iadd, 1) := by decide +kernel
theorem dX11_place_132 : decode cX11_place 132 = .ok (.istore_n 3, 1) := by decide +kernel
theorem dX11_place_133 : decode cX11_place 133 = .ok (.aload_n 0, 1) := by decide +kernel
theorem dX11_place_134 : decode cX11_place 134 = .ok (.getfield 468, 3) := by decide +kernel
theorem dX11_place_137 : decode cX11_place 137 = .ok (.istore 4, 2) := by decide +kernel
theorem dX11_place_139 : decode cX11_place 139 = .ok (.iinc 6 1, 3) := by decide +kernel
theorem dX11_place_14 : decode cX11_place 14 = .ok (.aload_n 0, 1) := by decide +kernel
theorem dX11_place_142 : decode cX11_place 142 = .ok (.goto (-80), 3) := by decide +kernel
theorem dX11_place_145 : decode cX11_place 145 = .ok (.iinc 5 1, 3) := by decide +kernel
theorem dX11_place_148 : decode cX11_place 148 = .ok (.goto (-100), 3) := by decide +kernel
theorem dX11_place_15 : decode cX11_place 15 = .ok (.iload_n 1, 1) := by decide +kernel
theorem dX11_place_151 : decode cX11_place 151 = .ok (.iload_n 3, 1) := by decide +kernel
theorem dX11_place_152 : decode cX11_place 152 = .ok (.ireturn, 1) := by decide +kernel
theorem dX11_place_16 : decode cX11_place 16 = .ok (.iconst 0, 1) := by decide +kernel
theorem dX11_place_17 : decode cX11_place 17 = .ok (.invokevirtual 283, 3) := by decide +kernel
theorem dX11_place_2 : decode cX11_place 2 = .ok (.iload_n 1, 1) := by decide +kernel
theorem dX11_place_20 : decode cX11_place 20 = .ok (.ifCond .eq 7, 3) := by decide +kernel
theorem dX11_place_23 : decode cX11_place 23 = .ok (.iconst 0, 1) := by decide +kernel
theorem dX11_place_24 : decode cX11_place 24 = .ok (.goto 4, 3) := by decide +kernel
theorem dX11_place_27 : decode cX11_place 27 = .ok (.iconst 2, 1) := by decide +kernel
theorem dX11_place_28 : decode cX11_place 28 = .ok (.putfield 70, 3) := by decide +kernel
theorem dX11_place_3 : decode cX11_place 3 = .ok (.i2l, 1) := by decide +kernel
theorem dX11_place_31 : decode cX11_place 31 = .ok (.aload_n 0, 1) := by decide +kernel
theorem dX11_place_32 : decode cX11_place 32 = .ok (.getfield 70, 3) := by decide +kernel
theorem dX11_place_35 : decode cX11_place 35 = .ok (.ifCond .le 5, 3) := by decide +kernel
theorem dX11_place_38 : decode cX11_place 38 = .ok (.iconst 0, 1) := by decide +kernel
theorem dX11_place_39 : decode cX11_place 39 = .ok (.ireturn, 1) := by decide +kernel
theorem dX11_place_4 : decode cX11_place 4 = .ok (.invokevirtual 363, 3) := by decide +kernel
theorem dX11_place_40 : decode cX11_place 40 = .ok (.iconst (-1), 1) := by decide +kernel
theorem dX11_place_41 : decode cX11_place 41 = .ok (.istore_n 3, 1) := by decide +kernel
theorem dX11_place_42 : decode cX11_place 42 = .ok (.iconst 0, 1) := by decide +kernel
theorem dX11_place_43 : decode cX11_place 43 = .ok (.istore 4, 2) := by decide +kernel
theorem dX11_place_45 : decode cX11_place 45 = .ok (.iconst 0, 1) := by decide +kernel
theorem dX11_place_46 : decode cX11_place 46 = .ok (.istore 5, 2) := by decide +kernel
theorem dX11_place_48 : decode cX11_place 48 = .ok (.iload 5, 2) := by decide +kernel
theorem dX11_place_50 : decode cX11_place 50 = .ok (.aload_n 0, 1) := by decide +kernel
theorem dX11_place_51 : decode cX11_place 51 = .ok (.getfield 9, 3) := by decide +kernel
theorem dX11_place_54 : decode cX11_place 54 = .ok (.iconst 1, 1) := by decide +kernel
theorem dX11_place_55 : decode cX11_place 55 = .ok (.iaload, 1) := by decide +kernel
theorem dX11_place_56 : decode cX11_place 56 = .ok (.if_icmp .ge 95, 3) := by decide +kernel
theorem dX11_place_59 : decode cX11_place 59 = .ok (.iconst 0, 1) := by decide +kernel
theorem dX11_place_60 : decode cX11_place 60 = .ok (.istore 6, 2) := by decide +kernel
theorem dX11_place_62 : decode cX11_place 62 = .ok (.iload 6, 2) := by decide +kernel
theorem dX11_place_64 : decode cX11_place 64 = .ok (.aload_n 0, 1) := by decide +kernel
theorem dX11_place_65 : decode cX11_place 65 = .ok (.getfield 9, 3) := by decide +kernel
theorem dX11_place_68 : decode cX11_place 68 = .ok (.iconst 2, 1) := by decide +kernel
theorem dX11_place_69 : decode cX11_place 69 = .ok (.iaload, 1) := by decide +kernel
theorem dX11_place_7 : decode cX11_place 7 = .ok (.ifCond .ne 7, 3) := by decide +kernel
theorem dX11_place_70 : decode cX11_place 70 = .ok (.if_icmp .ge 75, 3) := by decide +kernel
theorem dX11_place_73 : decode cX11_place 73 = .ok (.aload_n 0, 1) := by decide +kernel
theorem dX11_place_74 : decode cX11_place 74 = .ok (.iload_n 1, 1) := by decide +kernel
theorem dX11_place_75 : decode cX11_place 75 = .ok (.iload 5, 2) := by decide +kernel
theorem dX11_place_77 : decode cX11_place 77 = .ok (.iload 6, 2) := by decide +kernel
theorem dX11_place_79 : decode cX11_place 79 = .ok (.iconst 0, 1) := by decide +kernel
theorem dX11_place_80 : decode cX11_place 80 = .ok (.invokevirtual 479, 3) := by decide +kernel
theorem dX11_place_83 : decode cX11_place 83 = .ok (.aload_n 0, 1) := by decide +kernel
theorem dX11_place_84 : decode cX11_place 84 = .ok (.getfield 468, 3) := by decide +kernel
theorem dX11_place_87 : decode cX11_place 87 = .ok (.iconst (-1), 1) := by decide +kernel
theorem dX11_place_88 : decode cX11_place 88 = .ok (.if_icmp .eq 51, 3) := by decide +kernel
theorem dX11_place_91 : decode cX11_place 91 = .ok (.iload_n 3, 1) := by decide +kernel
theorem dX11_place_92 : decode cX11_place 92 = .ok (.iconst (-1), 1) := by decide +kernel
theorem dX11_place_93 : decode cX11_place 93 = .ok (.if_icmp .eq 31, 3) := by decide +kernel
theorem dX11_place_96 : decode cX11_place 96 = .ok (.iload_n 2, 1) := by decide +kernel
theorem dX11_place_97 : decode cX11_place 97 = .ok (.ifCond .eq 15, 3) := by decide +kernel
theorem dX11_safeIn_0 : decode cX11_safeIn 0 = .ok (.aload_n 0, 1) := by decide +kernel
theorem dX11_safeIn_1 : decode cX11_safeIn 1 = .ok (.aload_n 0, 1) := by decide +kernel
theorem dX11_safeIn_10 : decode cX11_safeIn 10 = .ok (.iconst 1, 1) := by decide +kernel
theorem dX11_safeIn_11 : decode cX11_safeIn 11 = .ok (.goto 20, 3) := by decide +kernel
theorem dX11_safeIn_14 : decode cX11_safeIn 14 = .ok (.iload_n 2, 1) := by decide +kernel
theorem dX11_safeIn_15 : decode cX11_safeIn 15 = .ok (.i2l, 1) := by decide +kernel
theorem dX11_safeIn_16 : decode cX11_safeIn 16 = .ok (.lconst 0, 1) := by decide +kernel
theorem dX11_safeIn_17 : decode cX11_safeIn 17 = .ok (.ldc2_w 477, 3) := by decide +kernel
theorem dX11_safeIn_2 : decode cX11_safeIn 2 = .ok (.iload_n 1, 1) := by decide +kernel
theorem dX11_safeIn_20 : decode cX11_safeIn 20 = .ok (.invokestatic 131, 3) := by decide +kernel
theorem dX11_safeIn_23 : decode cX11_safeIn 23 = .ok (.ifCond .eq 7, 3) := by decide +kernel
theorem dX11_safeIn_26 : decode cX11_safeIn 26 = .ok (.iconst 0, 1) := by decide +kernel
theorem dX11_safeIn_27 : decode cX11_safeIn 27 = .ok (.goto 4, 3) := by decide +kernel
theorem dX11_safeIn_3 : decode cX11_safeIn 3 = .ok (.i2l, 1) := by decide +kernel
theorem dX11_safeIn_30 : decode cX11_safeIn 30 = .ok (.iconst 2, 1) := by decide +kernel
theorem dX11_safeIn_31 : decode cX11_safeIn 31 = .ok (.putfield 70, 3) := by decide +kernel
theorem dX11_safeIn_34 : decode cX11_safeIn 34 = .ok (.aload_n 0, 1) := by decide +kernel
theorem dX11_safeIn_35 : decode cX11_safeIn 35 = .ok (.getfield 70, 3) := by decide +kernel
theorem dX11_safeIn_38 : decode cX11_safeIn 38 = .ok (.ifCond .le 5, 3) := by decide +kernel
theorem dX11_safeIn_4 : decode cX11_safeIn 4 = .ok (.invokevirtual 286, 3) := by decide +kernel
theorem dX11_safeIn_41 : decode cX11_safeIn 41 = .ok (.iconst 0, 1) := by decide +kernel
theorem dX11_safeIn_42 : decode cX11_safeIn 42 = .ok (.ireturn, 1) := by decide +kernel
theorem dX11_safeIn_43 : decode cX11_safeIn 43 = .ok (.aload_n 0, 1) := by decide +kernel
theorem dX11_safeIn_44 : decode cX11_safeIn 44 = .ok (.iload_n 1, 1) := by decide +kernel
theorem dX11_safeIn_45 : decode cX11_safeIn 45 = .ok (.invokevirtual 499, 3) := by decide +kernel
theorem dX11_safeIn_48 : decode cX11_safeIn 48 = .ok (.aload_n 0, 1) := by decide +kernel
theorem dX11_safeIn_49 : decode cX11_safeIn 49 = .ok (.getfield 45, 3) := by decide +kernel
theorem dX11_safeIn_52 : decode cX11_safeIn 52 = .ok (.iload_n 2, 1) := by decide +kernel
theorem dX11_safeIn_53 : decode cX11_safeIn 53 = .ok (.iaload, 1) := by decide +kernel
theorem dX11_safeIn_54 : decode cX11_safeIn 54 = .ok (.ireturn, 1) := by decide +kernel
theorem dX11_safeIn_7 : decode cX11_safeIn 7 = .ok (.ifCond .ne 7, 3) := by decide +kernel
theorem dX11_safeWays_0 : decode cX11_safeWays 0 = .ok (.aload_n 0, 1) := by decide +kernel
theorem dX11_safeWays_1 : decode cX11_safeWays 1 = .ok (.aload_n 0, 1) := by decide +kernel
theorem dX11_safeWays_10 : decode cX11_safeWays 10 = .ok (.aload_n 0, 1) := by decide +kernel
theorem dX11_safeWays_100 : decode cX11_safeWays 100 = .ok (.aload_n 0, 1) := by decide +kernel
theorem dX11_safeWays_101 : decode cX11_safeWays 101 = .ok (.getfield 42, 3) := by decide +kernel
theorem dX11_safeWays_104 : decode cX11_safeWays 104 = .ok (.iload 4, 2) := by decide +kernel
theorem dX11_safeWays_106 : decode cX11_safeWays 106 = .ok (.iaload, 1) := by decide +kernel
theorem dX11_safeWays_107 : decode cX11_safeWays 107 = .ok (.invokevirtual 509, 3) := by decide +kernel
theorem dX11_safeWays_11 : decode cX11_safeWays 11 = .ok (.iload_n 2, 1) := by decide +kernel
theorem dX11_safeWays_110 : decode cX11_safeWays 110 = .ok (.iinc 4 1, 3) := by decide +kernel
theorem dX11_safeWays_113 : decode cX11_safeWays 113 = .ok (.goto (-20), 3) := by decide +kernel
theorem dX11_safeWays_116 : decode cX11_safeWays 116 = .ok (.aload_n 0, 1) := by decide +kernel
theorem dX11_safeWays_117 : decode cX11_safeWays 117 = .ok (.getfield 54, 3) := by decide +kernel
theorem dX11_safeWays_12 : decode cX11_safeWays 12 = .ok (.i2l, 1) := by decide +kernel
theorem dX11_safeWays_120 : decode cX11_safeWays 120 = .ok (.iload_n 2, 1) := by decide +kernel
theorem dX11_safeWays_121 : decode cX11_safeWays 121 = .ok (.laload, 1) := by decide +kernel
theorem dX11_safeWays_122 : decode cX11_safeWays 122 = .ok (.lreturn, 1) := by decide +kernel
theorem dX11_safeWays_13 : decode cX11_safeWays 13 = .ok (.invokevirtual 286, 3) := by decide +kernel
theorem dX11_safeWays_16 : decode cX11_safeWays 16 = .ok (.ifCond .ne 7, 3) := by decide +kernel
theorem dX11_safeWays_19 : decode cX11_safeWays 19 = .ok (.iconst 1, 1) := by decide +kernel
theorem dX11_safeWays_2 : decode cX11_safeWays 2 = .ok (.iload_n 1, 1) := by decide +kernel
theorem dX11_safeWays_20 : decode cX11_safeWays 20 = .ok (.goto 20, 3) := by decide +kernel
theorem dX11_safeWays_23 : decode cX11_safeWays 23 = .ok (.iload_n 3, 1) := by decide +kernel
theorem dX11_safeWays_24 : decode cX11_safeWays 24 = .ok (.i2l, 1) := by decide +kernel
theorem dX11_safeWays_25 : decode cX11_safeWays 25 = .ok (.lconst 0, 1) := by decide +kernel
theorem dX11_safeWays_26 : decode cX11_safeWays 26 = .ok (.ldc2_w 507, 3) := by decide +kernel
theorem dX11_safeWays_29 : decode cX11_safeWays 29 = .ok (.invokestatic 131, 3) := by decide +kernel
theorem dX11_safeWays_3 : decode cX11_safeWays 3 = .ok (.i2l, 1) := by decide +kernel
theorem dX11_safeWays_32 : decode cX11_safeWays 32 = .ok (.ifCond .eq 7, 3) := by decide +kernel
theorem dX11_safeWays_35 : decode cX11_safeWays 35 = .ok (.iconst 0, 1) := by decide +kernel
theorem dX11_safeWays_36 : decode cX11_safeWays 36 = .ok (.goto 4, 3) := by decide +kernel
theorem dX11_safeWays_39 : decode cX11_safeWays 39 = .ok (.iconst 2, 1) := by decide +kernel
theorem dX11_safeWays_4 : decode cX11_safeWays 4 = .ok (.invokevirtual 286, 3) := by decide +kernel
theorem dX11_safeWays_40 : decode cX11_safeWays 40 = .ok (.putfield 70, 3) := by decide +kernel
theorem dX11_safeWays_43 : decode cX11_safeWays 43 = .ok (.aload_n 0, 1) := by decide +kernel
theorem dX11_safeWays_44 : decode cX11_safeWays 44 = .ok (.getfield 70, 3) := by decide +kernel
theorem dX11_safeWays_47 : decode cX11_safeWays 47 = .ok (.ifCond .le 5, 3) := by decide +kernel
theorem dX11_safeWays_50 : decode cX11_safeWays 50 = .ok (.lconst 0, 1) := by decide +kernel
theorem dX11_safeWays_51 : decode cX11_safeWays 51 = .ok (.lreturn, 1) := by decide +kernel
theorem dX11_safeWays_52 : decode cX11_safeWays 52 = .ok (.aload_n 0, 1) := by decide +kernel
theorem dX11_safeWays_53 : decode cX11_safeWays 53 = .ok (.invokevirtual 493, 3) := by decide +kernel
theorem dX11_safeWays_56 : decode cX11_safeWays 56 = .ok (.iconst 0, 1) := by decide +kernel
theorem dX11_safeWays_57 : decode cX11_safeWays 57 = .ok (.istore 4, 2) := by decide +kernel
theorem dX11_safeWays_59 : decode cX11_safeWays 59 = .ok (.iload 4, 2) := by decide +kernel
theorem dX11_safeWays_61 : decode cX11_safeWays 61 = .ok (.bipush 6, 2) := by decide +kernel
theorem dX11_safeWays_63 : decode cX11_safeWays 63 = .ok (.if_icmp .ge 27, 3) := by decide +kernel
theorem dX11_safeWays_66 : decode cX11_safeWays 66 = .ok (.aload_n 0, 1) := by decide +kernel
theorem dX11_safeWays_67 : decode cX11_safeWays 67 = .ok (.getfield 54, 3) := by decide +kernel
theorem dX11_safeWays_7 : decode cX11_safeWays 7 = .ok (.ifCond .eq 12, 3) := by decide +kernel
theorem dX11_safeWays_70 : decode cX11_safeWays 70 = .ok (.iload 4, 2) := by decide +kernel
theorem dX11_safeWays_72 : decode cX11_safeWays 72 = .ok (.iload 4, 2) := by decide +kernel
theorem dX11_safeWays_74 : decode cX11_safeWays 74 = .ok (.iload_n 1, 1) := by decide +kernel
theorem dX11_safeWays_75 : decode cX11_safeWays 75 = .ok (.if_icmp .ne 7, 3) := by decide +kernel
theorem dX11_safeWays_78 : decode cX11_safeWays 78 = .ok (.lconst 1, 1) := by decide +kernel
theorem dX11_safeWays_79 : decode cX11_safeWays 79 = .ok (.goto 4, 3) := by decide +kernel
theorem dX11_safeWays_82 : decode cX11_safeWays 82 = .ok (.lconst 0, 1) := by decide +kernel
theorem dX11_safeWays_83 : decode cX11_safeWays 83 = .ok (.lastore, 1) := by decide +kernel
theorem dX11_safeWays_84 : decode cX11_safeWays 84 = .ok (.iinc 4 1, 3) := by decide +kernel
theorem dX11_safeWays_87 : decode cX11_safeWays 87 = .ok (.goto (-28), 3) := by decide +kernel
theorem dX11_safeWays_90 : decode cX11_safeWays 90 = .ok (.iconst 1, 1) := by decide +kernel
theorem dX11_safeWays_91 : decode cX11_safeWays 91 = .ok (.istore 4, 2) := by decide +kernel
theorem dX11_safeWays_93 : decode cX11_safeWays 93 = .ok (.iload 4, 2) := by decide +kernel
theorem dX11_safeWays_95 : decode cX11_safeWays 95 = .ok (.iload_n 3, 1) := by decide +kernel
theorem dX11_safeWays_96 : decode cX11_safeWays 96 = .ok (.if_icmp .gt 20, 3) := by decide +kernel
theorem dX11_safeWays_99 : decode cX11_safeWays 99 = .ok (.aload_n 0, 1) := by decide +kernel
theorem dX11_season_0 : decode cX11_season 0 = .ok (.aload_n 0, 1) := by decide +kernel
theorem dX11_season_1 : decode cX11_season 1 = .ok (.iconst 0, 1) := by decide +kernel
theorem dX11_season_102 : decode cX11_season 102 = .ok (.sipush 1000, 3) := by decide +kernel
theorem dX11_season_105 : decode cX11_season 105 = .ok (.iadd, 1) := by decide +kernel
theorem dX11_season_106 : decode cX11_season 106 = .ok (.istore 6, 2) := by decide +kernel
theorem dX11_season_108 : decode cX11_season 108 = .ok (.iload 5, 2) := by decide +kernel
theorem dX11_season_11 : decode cX11_season 11 = .ok (.invokestatic 131, 3) := by decide +kernel
theorem dX11_season_110 : decode cX11_season 110 = .ok (.iconst 2, 1) := by decide +kernel
theorem dX11_season_111 : decode cX11_season 111 = .ok (.if_icmp .ne 36, 3) := by decide +kernel
theorem dX11_season_114 : decode cX11_season 114 = .ok (.iload 6, 2) := by decide +kernel
theorem dX11_season_116 : decode cX11_season 116 = .ok (.bipush 10, 2) := by decide +kernel
theorem dX11_season_118 : decode cX11_season 118 = .ok (.aload_n 0, 1) := by decide +kernel
theorem dX11_season_119 : decode cX11_season 119 = .ok (.aload_n 0, 1) := by decide +kernel
theorem dX11_season_120 : decode cX11_season 120 = .ok (.getfield 9, 3) := by decide +kernel
theorem dX11_season_123 : decode cX11_season 123 = .ok (.iconst 1, 1) := by decide +kernel
theorem dX11_season_124 : decode cX11_season 124 = .ok (.iaload, 1) := by decide +kernel
theorem dX11_season_125 : decode cX11_season 125 = .ok (.invokevirtual 449, 3) := by decide +kernel
theorem dX11_season_128 : decode cX11_season 128 = .ok (.imul, 1) := by decide +kernel
theorem dX11_season_129 : decode cX11_season 129 = .ok (.iadd, 1) := by decide +kernel
theorem dX11_season_130 : decode cX11_season 130 = .ok (.istore 6, 2) := by decide +kernel
theorem dX11_season_132 : decode cX11_season 132 = .ok (.iload 6, 2) := by decide +kernel
theorem dX11_season_134 : decode cX11_season 134 = .ok (.aload_n 0, 1) := by decide +kernel
theorem dX11_season_135 : decode cX11_season 135 = .ok (.aload_n 0, 1) := by decide +kernel
theorem dX11_season_136 : decode cX11_season 136 = .ok (.getfield 9, 3) := by decide +kernel
theorem dX11_season_139 : decode cX11_season 139 = .ok (.iconst 2, 1) := by decide +kernel
theorem dX11_season_14 : decode cX11_season 14 = .ok (.ifCond .ne 9, 3) := by decide +kernel
theorem dX11_season_140 : decode cX11_season 140 = .ok (.iaload, 1) := by decide +kernel
theorem dX11_season_141 : decode cX11_season 141 = .ok (.invokevirtual 449, 3) := by decide +kernel
theorem dX11_season_144 : decode cX11_season 144 = .ok (.iadd, 1) := by decide +kernel
theorem dX11_season_145 : decode cX11_season 145 = .ok (.istore 6, 2) := by decide +kernel
theorem dX11_season_147 : decode cX11_season 147 = .ok (.aload_n 0, 1) := by decide +kernel
theorem dX11_season_148 : decode cX11_season 148 = .ok (.iload 6, 2) := by decide +kernel
theorem dX11_season_150 : decode cX11_season 150 = .ok (.i2l, 1) := by decide +kernel
theorem dX11_season_151 : decode cX11_season 151 = .ok (.invokevirtual 428, 3) := by decide +kernel
theorem dX11_season_154 : decode cX11_season 154 = .ok (.ifCond .eq 6, 3) := by decide +kernel
theorem dX11_season_157 : decode cX11_season 157 = .ok (.goto 16, 3) := by decide +kernel
theorem dX11_season_160 : decode cX11_season 160 = .ok (.aload_n 0, 1) := by decide +kernel
theorem dX11_season_161 : decode cX11_season 161 = .ok (.invokevirtual 383, 3) := by decide +kernel
theorem dX11_season_164 : decode cX11_season 164 = .ok (.aload_n 0, 1) := by decide +kernel
theorem dX11_season_165 : decode cX11_season 165 = .ok (.iload 6, 2) := by decide +kernel
theorem dX11_season_167 : decode cX11_season 167 = .ok (.invokevirtual 431, 3) := by decide +kernel
theorem dX11_season_17 : decode cX11_season 17 = .ok (.aload_n 0, 1) := by decide +kernel
theorem dX11_season_170 : decode cX11_season 170 = .ok (.iinc 3 1, 3) := by decide +kernel
theorem dX11_season_173 : decode cX11_season 173 = .ok (.iinc 4 1, 3) := by decide +kernel
theorem dX11_season_176 : decode cX11_season 176 = .ok (.goto (-143), 3) := by decide +kernel
theorem dX11_season_179 : decode cX11_season 179 = .ok (.iload_n 3, 1) := by decide +kernel
theorem dX11_season_18 : decode cX11_season 18 = .ok (.iconst 1, 1) := by decide +kernel
theorem dX11_season_180 : decode cX11_season 180 = .ok (.ireturn, 1) := by decide +kernel
theorem dX11_season_19 : decode cX11_season 19 = .ok (.invokevirtual 269, 3) := by decide +kernel
theorem dX11_season_2 : decode cX11_season 2 = .ok (.putfield 70, 3) := by decide +kernel
theorem dX11_season_22 : decode cX11_season 22 = .ok (.ireturn, 1) := by decide +kernel
theorem dX11_season_23 : decode cX11_season 23 = .ok (.aload_n 0, 1) := by decide +kernel
theorem dX11_season_24 : decode cX11_season 24 = .ok (.iload_n 1, 1) := by decide +kernel
theorem dX11_season_25 : decode cX11_season 25 = .ok (.putfield 444, 3) := by decide +kernel
theorem dX11_season_28 : decode cX11_season 28 = .ok (.iconst 0, 1) := by decide +kernel
theorem dX11_season_29 : decode cX11_season 29 = .ok (.istore_n 3, 1) := by decide +kernel
theorem dX11_season_30 : decode cX11_season 30 = .ok (.iconst 0, 1) := by decide +kernel
theorem dX11_season_31 : decode cX11_season 31 = .ok (.istore 4, 2) := by decide +kernel
theorem dX11_season_33 : decode cX11_season 33 = .ok (.iload 4, 2) := by decide +kernel
theorem dX11_season_35 : decode cX11_season 35 = .ok (.iload_n 2, 1) := by decide +kernel
theorem dX11_season_36 : decode cX11_season 36 = .ok (.if_icmp .ge 143, 3) := by decide +kernel
theorem dX11_season_39 : decode cX11_season 39 = .ok (.aload_n 0, 1) := by decide +kernel
theorem dX11_season_40 : decode cX11_season 40 = .ok (.iconst 4, 1) := by decide +kernel
theorem dX11_season_41 : decode cX11_season 41 = .ok (.invokevirtual 449, 3) := by decide +kernel
theorem dX11_season_44 : decode cX11_season 44 = .ok (.istore 5, 2) := by decide +kernel
theorem dX11_season_46 : decode cX11_season 46 = .ok (.iload 5, 2) := by decide +kernel
theorem dX11_season_48 : decode cX11_season 48 = .ok (.iconst 1, 1) := by decide +kernel
theorem dX11_season_49 : decode cX11_season 49 = .ok (.if_icmp .le 13, 3) := by decide +kernel
theorem dX11_season_5 : decode cX11_season 5 = .ok (.iload_n 2, 1) := by decide +kernel
theorem dX11_season_52 : decode cX11_season 52 = .ok (.aload_n 0, 1) := by decide +kernel
theorem dX11_season_53 : decode cX11_season 53 = .ok (.invokevirtual 280, 3) := by decide +kernel
theorem dX11_season_56 : decode cX11_season 56 = .ok (.ifCond .ne 6, 3) := by decide +kernel
theorem dX11_season_59 : decode cX11_season 59 = .ok (.goto 114, 3) := by decide +kernel
theorem dX11_season_6 : decode cX11_season 6 = .ok (.i2l, 1) := by decide +kernel
theorem dX11_season_62 : decode cX11_season 62 = .ok (.iconst (-1), 1) := by decide +kernel
theorem dX11_season_63 : decode cX11_season 63 = .ok (.istore 6, 2) := by decide +kernel
theorem dX11_season_65 : decode cX11_season 65 = .ok (.iload 5, 2) := by decide +kernel
theorem dX11_season_67 : decode cX11_season 67 = .ok (.iconst 1, 1) := by decide +kernel
theorem dX11_season_68 : decode cX11_season 68 = .ok (.if_icmp .le 40, 3) := by decide +kernel
theorem dX11_season_7 : decode cX11_season 7 = .ok (.lconst 1, 1) := by decide +kernel
theorem dX11_season_71 : decode cX11_season 71 = .ok (.aload_n 0, 1) := by decide +kernel
theorem dX11_season_72 : decode cX11_season 72 = .ok (.aload_n 0, 1) := by decide +kernel
theorem dX11_season_73 : decode cX11_season 73 = .ok (.invokevirtual 280, 3) := by decide +kernel
theorem dX11_season_76 : decode cX11_season 76 = .ok (.invokevirtual 449, 3) := by decide +kernel
theorem dX11_season_79 : decode cX11_season 79 = .ok (.iload 5, 2) := by decide +kernel
theorem dX11_season_8 : decode cX11_season 8 = .ok (.ldc2_w 447, 3) := by decide +kernel
theorem dX11_season_81 : decode cX11_season 81 = .ok (.iconst 2, 1) := by decide +kernel
theorem dX11_season_82 : decode cX11_season 82 = .ok (.if_icmp .ne 8, 3) := by decide +kernel
theorem dX11_season_85 : decode cX11_season 85 = .ok (.bipush 100, 2) := by decide +kernel
theorem dX11_season_87 : decode cX11_season 87 = .ok (.goto 4, 3) := by decide +kernel
theorem dX11_season_90 : decode cX11_season 90 = .ok (.iconst 1, 1) := by decide +kernel
theorem dX11_season_91 : decode cX11_season 91 = .ok (.imul, 1) := by decide +kernel
theorem dX11_season_92 : decode cX11_season 92 = .ok (.iload 5, 2) := by decide +kernel
theorem dX11_season_94 : decode cX11_season 94 = .ok (.iconst 2, 1) := by decide +kernel
theorem dX11_season_95 : decode cX11_season 95 = .ok (.if_icmp .ne 7, 3) := by decide +kernel
theorem dX11_season_98 : decode cX11_season 98 = .ok (.iconst 0, 1) := by decide +kernel
theorem dX11_season_99 : decode cX11_season 99 = .ok (.goto 6, 3) := by decide +kernel
theorem dX11_shelter_0 : decode cX11_shelter 0 = .ok (.aload_n 0, 1) := by decide +kernel
theorem dX11_shelter_1 : decode cX11_shelter 1 = .ok (.iconst 0, 1) := by decide +kernel
theorem dX11_shelter_10 : decode cX11_shelter 10 = .ok (.istore_n 1, 1) := by decide +kernel
theorem dX11_shelter_11 : decode cX11_shelter 11 = .ok (.iconst 0, 1) := by decide +kernel
theorem dX11_shelter_12 : decode cX11_shelter 12 = .ok (.istore_n 2, 1) := by decide +kernel
theorem dX11_shelter_13 : decode cX11_shelter 13 = .ok (.iconst 0, 1) := by decide +kernel
theorem dX11_shelter_14 : decode cX11_shelter 14 = .ok (.istore_n 3, 1) := by decide +kernel
theorem dX11_shelter_15 : decode cX11_shelter 15 = .ok (.iload_n 3, 1) := by decide +kernel
theorem dX11_shelter_16 : decode cX11_shelter 16 = .ok (.aload_n 0, 1) := by decide +kernel
theorem dX11_shelter_17 : decode cX11_shelter 17 = .ok (.getfield 9, 3) := by decide +kernel
theorem dX11_shelter_2 : decode cX11_shelter 2 = .ok (.putfield 70, 3) := by decide +kernel
theorem dX11_shelter_20 : decode cX11_shelter 20 = .ok (.iconst 1, 1) := by decide +kernel
theorem dX11_shelter_21 : decode cX11_shelter 21 = .ok (.iaload, 1) := by decide +kernel
theorem dX11_shelter_22 : decode cX11_shelter 22 = .ok (.if_icmp .ge 53, 3) := by decide +kernel
theorem dX11_shelter_25 : decode cX11_shelter 25 = .ok (.iconst 1, 1) := by decide +kernel
theorem dX11_shelter_26 : decode cX11_shelter 26 = .ok (.istore 4, 2) := by decide +kernel
theorem dX11_shelter_28 : decode cX11_shelter 28 = .ok (.iload 4, 2) := by decide +kernel
theorem dX11_shelter_30 : decode cX11_shelter 30 = .ok (.bipush 60, 2) := by decide +kernel
theorem dX11_shelter_32 : decode cX11_shelter 32 = .ok (.if_icmp .gt 23, 3) := by decide +kernel
theorem dX11_shelter_35 : decode cX11_shelter 35 = .ok (.aload_n 0, 1) := by decide +kernel
theorem dX11_shelter_36 : decode cX11_shelter 36 = .ok (.getfield 42, 3) := by decide +kernel
theorem dX11_shelter_39 : decode cX11_shelter 39 = .ok (.iload 4, 2) := by decide +kernel
theorem dX11_shelter_41 : decode cX11_shelter 41 = .ok (.iaload, 1) := by decide +kernel
theorem dX11_shelter_42 : decode cX11_shelter 42 = .ok (.iload_n 3, 1) := by decide +kernel
theorem dX11_shelter_43 : decode cX11_shelter 43 = .ok (.invokestatic 323, 3) := by decide +kernel
theorem dX11_shelter_46 : decode cX11_shelter 46 = .ok (.ifCond .ne 9, 3) := by decide +kernel
theorem dX11_shelter_49 : decode cX11_shelter 49 = .ok (.iinc 4 1, 3) := by decide +kernel
theorem dX11_shelter_5 : decode cX11_shelter 5 = .ok (.aload_n 0, 1) := by decide +kernel
theorem dX11_shelter_52 : decode cX11_shelter 52 = .ok (.goto (-24), 3) := by decide +kernel
theorem dX11_shelter_55 : decode cX11_shelter 55 = .ok (.iload 4, 2) := by decide +kernel
theorem dX11_shelter_57 : decode cX11_shelter 57 = .ok (.iload_n 2, 1) := by decide +kernel
theorem dX11_shelter_58 : decode cX11_shelter 58 = .ok (.if_icmp .gt 6, 3) := by decide +kernel
theorem dX11_shelter_6 : decode cX11_shelter 6 = .ok (.invokevirtual 493, 3) := by decide +kernel
theorem dX11_shelter_61 : decode cX11_shelter 61 = .ok (.goto 8, 3) := by decide +kernel
theorem dX11_shelter_64 : decode cX11_shelter 64 = .ok (.iload_n 3, 1) := by decide +kernel
theorem dX11_shelter_65 : decode cX11_shelter 65 = .ok (.istore_n 1, 1) := by decide +kernel
theorem dX11_shelter_66 : decode cX11_shelter 66 = .ok (.iload 4, 2) := by decide +kernel
theorem dX11_shelter_68 : decode cX11_shelter 68 = .ok (.istore_n 2, 1) := by decide +kernel
theorem dX11_shelter_69 : decode cX11_shelter 69 = .ok (.iinc 3 1, 3) := by decide +kernel
theorem dX11_shelter_72 : decode cX11_shelter 72 = .ok (.goto (-57), 3) := by decide +kernel
theorem dX11_shelter_75 : decode cX11_shelter 75 = .ok (.iload_n 1, 1) := by decide +kernel
theorem dX11_shelter_76 : decode cX11_shelter 76 = .ok (.ireturn, 1) := by decide +kernel
theorem dX11_shelter_9 : decode cX11_shelter 9 = .ok (.iconst 0, 1) := by decide +kernel
theorem dX11_waitFor_0 : decode cX11_waitFor 0 = .ok (.aload_n 0, 1) := by decide +kernel
theorem dX11_waitFor_1 : decode cX11_waitFor 1 = .ok (.iload_n 1, 1) := by decide +kernel
theorem dX11_waitFor_10 : decode cX11_waitFor 10 = .ok (.iload 4, 2) := by decide +kernel
theorem dX11_waitFor_12 : decode cX11_waitFor 12 = .ok (.i2l, 1) := by decide +kernel
theorem dX11_waitFor_13 : decode cX11_waitFor 13 = .ok (.lconst 0, 1) := by decide +kernel
theorem dX11_waitFor_14 : decode cX11_waitFor 14 = .ok (.ldc2_w 377, 3) := by decide +kernel
theorem dX11_waitFor_17 : decode cX11_waitFor 17 = .ok (.invokestatic 131, 3) := by decide +kernel
theorem dX11_waitFor_2 : decode cX11_waitFor 2 = .ok (.iload_n 2, 1) := by decide +kernel
theorem dX11_waitFor_20 : decode cX11_waitFor 20 = .ok (.ifCond .ne 8, 3) := by decide +kernel
theorem dX11_waitFor_23 : decode cX11_waitFor 23 = .ok (.aload_n 0, 1) := by decide +kernel
theorem dX11_waitFor_24 : decode cX11_waitFor 24 = .ok (.iconst 3, 1) := by decide +kernel
theorem dX11_waitFor_25 : decode cX11_waitFor 25 = .ok (.putfield 70, 3) := by decide +kernel
theorem dX11_waitFor_28 : decode cX11_waitFor 28 = .ok (.aload_n 0, 1) := by decide +kernel
theorem dX11_waitFor_29 : decode cX11_waitFor 29 = .ok (.getfield 70, 3) := by decide +kernel
theorem dX11_waitFor_3 : decode cX11_waitFor 3 = .ok (.iload_n 3, 1) := by decide +kernel
theorem dX11_waitFor_32 : decode cX11_waitFor 32 = .ok (.ifCond .le 7, 3) := by decide +kernel
theorem dX11_waitFor_35 : decode cX11_waitFor 35 = .ok (.iconst 0, 1) := by decide +kernel
theorem dX11_waitFor_36 : decode cX11_waitFor 36 = .ok (.goto 12, 3) := by decide +kernel
theorem dX11_waitFor_39 : decode cX11_waitFor 39 = .ok (.aload_n 0, 1) := by decide +kernel
theorem dX11_waitFor_4 : decode cX11_waitFor 4 = .ok (.invokevirtual 474, 3) := by decide +kernel
theorem dX11_waitFor_40 : decode cX11_waitFor 40 = .ok (.iload_n 1, 1) := by decide +kernel
theorem dX11_waitFor_41 : decode cX11_waitFor 41 = .ok (.iload_n 2, 1) := by decide +kernel
theorem dX11_waitFor_42 : decode cX11_waitFor 42 = .ok (.iload_n 3, 1) := by decide +kernel
theorem dX11_waitFor_43 : decode cX11_waitFor 43 = .ok (.iload 4, 2) := by decide +kernel
theorem dX11_waitFor_45 : decode cX11_waitFor 45 = .ok (.invokevirtual 483, 3) := by decide +kernel
theorem dX11_waitFor_48 : decode cX11_waitFor 48 = .ok (.ireturn, 1) := by decide +kernel
theorem dX11_waitFor_7 : decode cX11_waitFor 7 = .ok (.ifCond .ne 21, 3) := by decide +kernel
theorem dX11_waitHurt_0 : decode cX11_waitHurt 0 = .ok (.aload_n 0, 1) := by decide +kernel
theorem dX11_waitHurt_1 : decode cX11_waitHurt 1 = .ok (.aload_n 0, 1) := by decide +kernel
theorem dX11_waitHurt_10 : decode cX11_waitHurt 10 = .ok (.aload_n 0, 1) := by decide +kernel
theorem dX11_waitHurt_101 : decode cX11_waitHurt 101 = .ok (.iadd, 1) := by decide +kernel
theorem dX11_waitHurt_102 : decode cX11_waitHurt 102 = .ok (.invokevirtual 345, 3) := by decide +kernel
theorem dX11_waitHurt_105 : decode cX11_waitHurt 105 = .ok (.iload_n 2, 1) := by decide +kernel
theorem dX11_waitHurt_106 : decode cX11_waitHurt 106 = .ok (.if_icmp .ne 6, 3) := by decide +kernel
theorem dX11_waitHurt_109 : decode cX11_waitHurt 109 = .ok (.iload 5, 2) := by decide +kernel
theorem dX11_waitHurt_11 : decode cX11_waitHurt 11 = .ok (.iload_n 2, 1) := by decide +kernel
theorem dX11_waitHurt_111 : decode cX11_waitHurt 111 = .ok (.ireturn, 1) := by decide +kernel
theorem dX11_waitHurt_112 : decode cX11_waitHurt 112 = .ok (.iinc 5 1, 3) := by decide +kernel
theorem dX11_waitHurt_115 : decode cX11_waitHurt 115 = .ok (.goto (-52), 3) := by decide +kernel
theorem dX11_waitHurt_118 : decode cX11_waitHurt 118 = .ok (.iconst (-1), 1) := by decide +kernel
theorem dX11_waitHurt_119 : decode cX11_waitHurt 119 = .ok (.ireturn, 1) := by decide +kernel
theorem dX11_waitHurt_12 : decode cX11_waitHurt 12 = .ok (.i2l, 1) := by decide +kernel
theorem dX11_waitHurt_13 : decode cX11_waitHurt 13 = .ok (.iload_n 3, 1) := by decide +kernel
theorem dX11_waitHurt_14 : decode cX11_waitHurt 14 = .ok (.i2l, 1) := by decide +kernel
theorem dX11_waitHurt_15 : decode cX11_waitHurt 15 = .ok (.invokevirtual 373, 3) := by decide +kernel
theorem dX11_waitHurt_18 : decode cX11_waitHurt 18 = .ok (.ifCond .eq 12, 3) := by decide +kernel
theorem dX11_waitHurt_2 : decode cX11_waitHurt 2 = .ok (.iload_n 1, 1) := by decide +kernel
theorem dX11_waitHurt_21 : decode cX11_waitHurt 21 = .ok (.aload_n 0, 1) := by decide +kernel
theorem dX11_waitHurt_22 : decode cX11_waitHurt 22 = .ok (.iload 4, 2) := by decide +kernel
theorem dX11_waitHurt_24 : decode cX11_waitHurt 24 = .ok (.invokevirtual 368, 3) := by decide +kernel
theorem dX11_waitHurt_27 : decode cX11_waitHurt 27 = .ok (.ifCond .ne 7, 3) := by decide +kernel
theorem dX11_waitHurt_3 : decode cX11_waitHurt 3 = .ok (.i2l, 1) := by decide +kernel
theorem dX11_waitHurt_30 : decode cX11_waitHurt 30 = .ok (.iconst 1, 1) := by decide +kernel
theorem dX11_waitHurt_31 : decode cX11_waitHurt 31 = .ok (.goto 17, 3) := by decide +kernel
theorem dX11_waitHurt_34 : decode cX11_waitHurt 34 = .ok (.aload_n 0, 1) := by decide +kernel
theorem dX11_waitHurt_35 : decode cX11_waitHurt 35 = .ok (.iload_n 1, 1) := by decide +kernel
theorem dX11_waitHurt_36 : decode cX11_waitHurt 36 = .ok (.iconst 0, 1) := by decide +kernel
theorem dX11_waitHurt_37 : decode cX11_waitHurt 37 = .ok (.invokevirtual 283, 3) := by decide +kernel
theorem dX11_waitHurt_4 : decode cX11_waitHurt 4 = .ok (.invokevirtual 363, 3) := by decide +kernel
theorem dX11_waitHurt_40 : decode cX11_waitHurt 40 = .ok (.ifCond .eq 7, 3) := by decide +kernel
theorem dX11_waitHurt_43 : decode cX11_waitHurt 43 = .ok (.iconst 0, 1) := by decide +kernel
theorem dX11_waitHurt_44 : decode cX11_waitHurt 44 = .ok (.goto 4, 3) := by decide +kernel
theorem dX11_waitHurt_47 : decode cX11_waitHurt 47 = .ok (.iconst 2, 1) := by decide +kernel
theorem dX11_waitHurt_48 : decode cX11_waitHurt 48 = .ok (.putfield 70, 3) := by decide +kernel
theorem dX11_waitHurt_51 : decode cX11_waitHurt 51 = .ok (.aload_n 0, 1) := by decide +kernel
theorem dX11_waitHurt_52 : decode cX11_waitHurt 52 = .ok (.getfield 70, 3) := by decide +kernel
theorem dX11_waitHurt_55 : decode cX11_waitHurt 55 = .ok (.ifCond .le 5, 3) := by decide +kernel
theorem dX11_waitHurt_58 : decode cX11_waitHurt 58 = .ok (.iconst 0, 1) := by decide +kernel
theorem dX11_waitHurt_59 : decode cX11_waitHurt 59 = .ok (.ireturn, 1) := by decide +kernel
theorem dX11_waitHurt_60 : decode cX11_waitHurt 60 = .ok (.iconst 0, 1) := by decide +kernel
theorem dX11_waitHurt_61 : decode cX11_waitHurt 61 = .ok (.istore 5, 2) := by decide +kernel
theorem dX11_waitHurt_63 : decode cX11_waitHurt 63 = .ok (.iload 5, 2) := by decide +kernel
theorem dX11_waitHurt_65 : decode cX11_waitHurt 65 = .ok (.bipush 60, 2) := by decide +kernel
theorem dX11_waitHurt_67 : decode cX11_waitHurt 67 = .ok (.if_icmp .gt 51, 3) := by decide +kernel
theorem dX11_waitHurt_7 : decode cX11_waitHurt 7 = .ok (.ifCond .eq 23, 3) := by decide +kernel
theorem dX11_waitHurt_70 : decode cX11_waitHurt 70 = .ok (.aload_n 0, 1) := by decide +kernel
theorem dX11_waitHurt_71 : decode cX11_waitHurt 71 = .ok (.iload_n 1, 1) := by decide +kernel
theorem dX11_waitHurt_72 : decode cX11_waitHurt 72 = .ok (.iload_n 2, 1) := by decide +kernel
theorem dX11_waitHurt_73 : decode cX11_waitHurt 73 = .ok (.iload_n 3, 1) := by decide +kernel
theorem dX11_waitHurt_74 : decode cX11_waitHurt 74 = .ok (.iload 5, 2) := by decide +kernel
theorem dX11_waitHurt_76 : decode cX11_waitHurt 76 = .ok (.invokevirtual 479, 3) := by decide +kernel
theorem dX11_waitHurt_79 : decode cX11_waitHurt 79 = .ok (.aload_n 0, 1) := by decide +kernel
theorem dX11_waitHurt_80 : decode cX11_waitHurt 80 = .ok (.getfield 468, 3) := by decide +kernel
theorem dX11_waitHurt_83 : decode cX11_waitHurt 83 = .ok (.iconst (-1), 1) := by decide +kernel
theorem dX11_waitHurt_84 : decode cX11_waitHurt 84 = .ok (.if_icmp .eq 28, 3) := by decide +kernel
theorem dX11_waitHurt_87 : decode cX11_waitHurt 87 = .ok (.aload_n 0, 1) := by decide +kernel
theorem dX11_waitHurt_88 : decode cX11_waitHurt 88 = .ok (.iload 4, 2) := by decide +kernel
theorem dX11_waitHurt_90 : decode cX11_waitHurt 90 = .ok (.aload_n 0, 1) := by decide +kernel
theorem dX11_waitHurt_91 : decode cX11_waitHurt 91 = .ok (.getfield 9, 3) := by decide +kernel
theorem dX11_waitHurt_94 : decode cX11_waitHurt 94 = .ok (.bipush 40, 2) := by decide +kernel
theorem dX11_waitHurt_96 : decode cX11_waitHurt 96 = .ok (.iaload, 1) := by decide +kernel
theorem dX11_waitHurt_97 : decode cX11_waitHurt 97 = .ok (.aload_n 0, 1) := by decide +kernel
theorem dX11_waitHurt_98 : decode cX11_waitHurt 98 = .ok (.getfield 468, 3) := by decide +kernel
theorem dX11_waitSafe_0 : decode cX11_waitSafe 0 = .ok (.aload_n 0, 1) := by decide +kernel
theorem dX11_waitSafe_1 : decode cX11_waitSafe 1 = .ok (.iload_n 1, 1) := by decide +kernel
theorem dX11_waitSafe_10 : decode cX11_waitSafe 10 = .ok (.iconst 0, 1) := by decide +kernel
theorem dX11_waitSafe_11 : decode cX11_waitSafe 11 = .ok (.ireturn, 1) := by decide +kernel
theorem dX11_waitSafe_12 : decode cX11_waitSafe 12 = .ok (.iconst 0, 1) := by decide +kernel
theorem dX11_waitSafe_13 : decode cX11_waitSafe 13 = .ok (.istore 4, 2) := by decide +kernel
theorem dX11_waitSafe_15 : decode cX11_waitSafe 15 = .ok (.iload 4, 2) := by decide +kernel
theorem dX11_waitSafe_17 : decode cX11_waitSafe 17 = .ok (.bipush 60, 2) := by decide +kernel
theorem dX11_waitSafe_19 : decode cX11_waitSafe 19 = .ok (.if_icmp .gt 41, 3) := by decide +kernel
theorem dX11_waitSafe_2 : decode cX11_waitSafe 2 = .ok (.iload_n 2, 1) := by decide +kernel
theorem dX11_waitSafe_22 : decode cX11_waitSafe 22 = .ok (.aload_n 0, 1) := by decide +kernel
theorem dX11_waitSafe_23 : decode cX11_waitSafe 23 = .ok (.iload_n 1, 1) := by decide +kernel
theorem dX11_waitSafe_24 : decode cX11_waitSafe 24 = .ok (.iload_n 2, 1) := by decide +kernel
theorem dX11_waitSafe_25 : decode cX11_waitSafe 25 = .ok (.iload_n 3, 1) := by decide +kernel
theorem dX11_waitSafe_26 : decode cX11_waitSafe 26 = .ok (.iload 4, 2) := by decide +kernel
theorem dX11_waitSafe_28 : decode cX11_waitSafe 28 = .ok (.invokevirtual 479, 3) := by decide +kernel
theorem dX11_waitSafe_3 : decode cX11_waitSafe 3 = .ok (.iload_n 3, 1) := by decide +kernel
theorem dX11_waitSafe_31 : decode cX11_waitSafe 31 = .ok (.aload_n 0, 1) := by decide +kernel
theorem dX11_waitSafe_32 : decode cX11_waitSafe 32 = .ok (.getfield 468, 3) := by decide +kernel
theorem dX11_waitSafe_35 : decode cX11_waitSafe 35 = .ok (.iconst (-1), 1) := by decide +kernel
theorem dX11_waitSafe_36 : decode cX11_waitSafe 36 = .ok (.if_icmp .eq 18, 3) := by decide +kernel
theorem dX11_waitSafe_39 : decode cX11_waitSafe 39 = .ok (.aload_n 0, 1) := by decide +kernel
theorem dX11_waitSafe_4 : decode cX11_waitSafe 4 = .ok (.invokevirtual 474, 3) := by decide +kernel
theorem dX11_waitSafe_40 : decode cX11_waitSafe 40 = .ok (.iload_n 2, 1) := by decide +kernel
theorem dX11_waitSafe_41 : decode cX11_waitSafe 41 = .ok (.aload_n 0, 1) := by decide +kernel
theorem dX11_waitSafe_42 : decode cX11_waitSafe 42 = .ok (.getfield 468, 3) := by decide +kernel
theorem dX11_waitSafe_45 : decode cX11_waitSafe 45 = .ok (.invokevirtual 487, 3) := by decide +kernel
theorem dX11_waitSafe_48 : decode cX11_waitSafe 48 = .ok (.ifCond .ne 6, 3) := by decide +kernel
theorem dX11_waitSafe_51 : decode cX11_waitSafe 51 = .ok (.iload 4, 2) := by decide +kernel
theorem dX11_waitSafe_53 : decode cX11_waitSafe 53 = .ok (.ireturn, 1) := by decide +kernel
theorem dX11_waitSafe_54 : decode cX11_waitSafe 54 = .ok (.iinc 4 1, 3) := by decide +kernel
theorem dX11_waitSafe_57 : decode cX11_waitSafe 57 = .ok (.goto (-42), 3) := by decide +kernel
theorem dX11_waitSafe_60 : decode cX11_waitSafe 60 = .ok (.iconst (-1), 1) := by decide +kernel
theorem dX11_waitSafe_61 : decode cX11_waitSafe 61 = .ok (.ireturn, 1) := by decide +kernel
theorem dX11_waitSafe_7 : decode cX11_waitSafe 7 = .ok (.ifCond .eq 5, 3) := by decide +kernel
theorem dX11_worst_0 : decode cX11_worst 0 = .ok (.aload_n 0, 1) := by decide +kernel
theorem dX11_worst_1 : decode cX11_worst 1 = .ok (.aload_n 0, 1) := by decide +kernel
theorem dX11_worst_10 : decode cX11_worst 10 = .ok (.iconst 1, 1) := by decide +kernel
theorem dX11_worst_101 : decode cX11_worst 101 = .ok (.iconst (-1), 1) := by decide +kernel
theorem dX11_worst_102 : decode cX11_worst 102 = .ok (.if_icmp .ne 7, 3) := by decide +kernel
theorem dX11_worst_105 : decode cX11_worst 105 = .ok (.iconst (-1), 1) := by decide +kernel
theorem dX11_worst_106 : decode cX11_worst 106 = .ok (.goto 18, 3) := by decide +kernel
theorem dX11_worst_109 : decode cX11_worst 109 = .ok (.aload_n 0, 1) := by decide +kernel
theorem dX11_worst_11 : decode cX11_worst 11 = .ok (.goto 31, 3) := by decide +kernel
theorem dX11_worst_110 : decode cX11_worst 110 = .ok (.getfield 471, 3) := by decide +kernel
theorem dX11_worst_113 : decode cX11_worst 113 = .ok (.aload_n 0, 1) := by decide +kernel
theorem dX11_worst_114 : decode cX11_worst 114 = .ok (.iload 5, 2) := by decide +kernel
theorem dX11_worst_116 : decode cX11_worst 116 = .ok (.aload_n 0, 1) := by decide +kernel
theorem dX11_worst_117 : decode cX11_worst 117 = .ok (.getfield 468, 3) := by decide +kernel
theorem dX11_worst_120 : decode cX11_worst 120 = .ok (.invokevirtual 487, 3) := by decide +kernel
theorem dX11_worst_123 : decode cX11_worst 123 = .ok (.imul, 1) := by decide +kernel
theorem dX11_worst_124 : decode cX11_worst 124 = .ok (.istore 7, 2) := by decide +kernel
theorem dX11_worst_126 : decode cX11_worst 126 = .ok (.iload 7, 2) := by decide +kernel
theorem dX11_worst_128 : decode cX11_worst 128 = .ok (.iload 4, 2) := by decide +kernel
theorem dX11_worst_130 : decode cX11_worst 130 = .ok (.if_icmp .gt 6, 3) := by decide +kernel
theorem dX11_worst_133 : decode cX11_worst 133 = .ok (.goto 16, 3) := by decide +kernel
theorem dX11_worst_136 : decode cX11_worst 136 = .ok (.bipush 10, 2) := by decide +kernel
theorem dX11_worst_138 : decode cX11_worst 138 = .ok (.iload 5, 2) := by decide +kernel
theorem dX11_worst_14 : decode cX11_worst 14 = .ok (.aload_n 0, 1) := by decide +kernel
theorem dX11_worst_140 : decode cX11_worst 140 = .ok (.imul, 1) := by decide +kernel
theorem dX11_worst_141 : decode cX11_worst 141 = .ok (.iload 6, 2) := by decide +kernel
theorem dX11_worst_143 : decode cX11_worst 143 = .ok (.iadd, 1) := by decide +kernel
theorem dX11_worst_144 : decode cX11_worst 144 = .ok (.istore_n 3, 1) := by decide +kernel
theorem dX11_worst_145 : decode cX11_worst 145 = .ok (.iload 7, 2) := by decide +kernel
theorem dX11_worst_147 : decode cX11_worst 147 = .ok (.istore 4, 2) := by decide +kernel
theorem dX11_worst_149 : decode cX11_worst 149 = .ok (.iinc 6 1, 3) := by decide +kernel
theorem dX11_worst_15 : decode cX11_worst 15 = .ok (.iload_n 1, 1) := by decide +kernel
theorem dX11_worst_152 : decode cX11_worst 152 = .ok (.goto (-76), 3) := by decide +kernel
theorem dX11_worst_155 : decode cX11_worst 155 = .ok (.iinc 5 1, 3) := by decide +kernel
theorem dX11_worst_158 : decode cX11_worst 158 = .ok (.goto (-96), 3) := by decide +kernel
theorem dX11_worst_16 : decode cX11_worst 16 = .ok (.iconst 0, 1) := by decide +kernel
theorem dX11_worst_161 : decode cX11_worst 161 = .ok (.iload_n 2, 1) := by decide +kernel
theorem dX11_worst_162 : decode cX11_worst 162 = .ok (.ifCond .ne 7, 3) := by decide +kernel
theorem dX11_worst_165 : decode cX11_worst 165 = .ok (.iload_n 3, 1) := by decide +kernel
theorem dX11_worst_166 : decode cX11_worst 166 = .ok (.goto 5, 3) := by decide +kernel
theorem dX11_worst_169 : decode cX11_worst 169 = .ok (.iload 4, 2) := by decide +kernel
theorem dX11_worst_17 : decode cX11_worst 17 = .ok (.invokevirtual 283, 3) := by decide +kernel
theorem dX11_worst_171 : decode cX11_worst 171 = .ok (.ireturn, 1) := by decide +kernel
theorem dX11_worst_2 : decode cX11_worst 2 = .ok (.iload_n 1, 1) := by decide +kernel
theorem dX11_worst_20 : decode cX11_worst 20 = .ok (.ifCond .ne 7, 3) := by decide +kernel
theorem dX11_worst_23 : decode cX11_worst 23 = .ok (.iconst 2, 1) := by decide +kernel
theorem dX11_worst_24 : decode cX11_worst 24 = .ok (.goto 18, 3) := by decide +kernel
theorem dX11_worst_27 : decode cX11_worst 27 = .ok (.iload_n 2, 1) := by decide +kernel
theorem dX11_worst_28 : decode cX11_worst 28 = .ok (.i2l, 1) := by decide +kernel
theorem dX11_worst_29 : decode cX11_worst 29 = .ok (.lconst 0, 1) := by decide +kernel
theorem dX11_worst_3 : decode cX11_worst 3 = .ok (.i2l, 1) := by decide +kernel
theorem dX11_worst_30 : decode cX11_worst 30 = .ok (.lconst 1, 1) := by decide +kernel
theorem dX11_worst_31 : decode cX11_worst 31 = .ok (.invokestatic 131, 3) := by decide +kernel
theorem dX11_worst_34 : decode cX11_worst 34 = .ok (.ifCond .eq 7, 3) := by decide +kernel
theorem dX11_worst_37 : decode cX11_worst 37 = .ok (.iconst 0, 1) := by decide +kernel
theorem dX11_worst_38 : decode cX11_worst 38 = .ok (.goto 4, 3) := by decide +kernel
theorem dX11_worst_4 : decode cX11_worst 4 = .ok (.invokevirtual 363, 3) := by decide +kernel
theorem dX11_worst_41 : decode cX11_worst 41 = .ok (.iconst 3, 1) := by decide +kernel
theorem dX11_worst_42 : decode cX11_worst 42 = .ok (.putfield 70, 3) := by decide +kernel
theorem dX11_worst_45 : decode cX11_worst 45 = .ok (.aload_n 0, 1) := by decide +kernel
theorem dX11_worst_46 : decode cX11_worst 46 = .ok (.getfield 70, 3) := by decide +kernel
theorem dX11_worst_49 : decode cX11_worst 49 = .ok (.ifCond .le 5, 3) := by decide +kernel
theorem dX11_worst_52 : decode cX11_worst 52 = .ok (.iconst 0, 1) := by decide +kernel
theorem dX11_worst_53 : decode cX11_worst 53 = .ok (.ireturn, 1) := by decide +kernel
theorem dX11_worst_54 : decode cX11_worst 54 = .ok (.iconst (-1), 1) := by decide +kernel
theorem dX11_worst_55 : decode cX11_worst 55 = .ok (.istore_n 3, 1) := by decide +kernel
theorem dX11_worst_56 : decode cX11_worst 56 = .ok (.iconst (-1), 1) := by decide +kernel
theorem dX11_worst_57 : decode cX11_worst 57 = .ok (.istore 4, 2) := by decide +kernel
theorem dX11_worst_59 : decode cX11_worst 59 = .ok (.iconst 0, 1) := by decide +kernel
theorem dX11_worst_60 : decode cX11_worst 60 = .ok (.istore 5, 2) := by decide +kernel
theorem dX11_worst_62 : decode cX11_worst 62 = .ok (.iload 5, 2) := by decide +kernel
theorem dX11_worst_64 : decode cX11_worst 64 = .ok (.aload_n 0, 1) := by decide +kernel
theorem dX11_worst_65 : decode cX11_worst 65 = .ok (.getfield 9, 3) := by decide +kernel
theorem dX11_worst_68 : decode cX11_worst 68 = .ok (.iconst 1, 1) := by decide +kernel
theorem dX11_worst_69 : decode cX11_worst 69 = .ok (.iaload, 1) := by decide +kernel
theorem dX11_worst_7 : decode cX11_worst 7 = .ok (.ifCond .ne 7, 3) := by decide +kernel
theorem dX11_worst_70 : decode cX11_worst 70 = .ok (.if_icmp .ge 91, 3) := by decide +kernel
theorem dX11_worst_73 : decode cX11_worst 73 = .ok (.iconst 0, 1) := by decide +kernel
theorem dX11_worst_74 : decode cX11_worst 74 = .ok (.istore 6, 2) := by decide +kernel
theorem dX11_worst_76 : decode cX11_worst 76 = .ok (.iload 6, 2) := by decide +kernel
theorem dX11_worst_78 : decode cX11_worst 78 = .ok (.aload_n 0, 1) := by decide +kernel
theorem dX11_worst_79 : decode cX11_worst 79 = .ok (.getfield 9, 3) := by decide +kernel
theorem dX11_worst_82 : decode cX11_worst 82 = .ok (.iconst 2, 1) := by decide +kernel
theorem dX11_worst_83 : decode cX11_worst 83 = .ok (.iaload, 1) := by decide +kernel
theorem dX11_worst_84 : decode cX11_worst 84 = .ok (.if_icmp .ge 71, 3) := by decide +kernel
theorem dX11_worst_87 : decode cX11_worst 87 = .ok (.aload_n 0, 1) := by decide +kernel
theorem dX11_worst_88 : decode cX11_worst 88 = .ok (.iload_n 1, 1) := by decide +kernel
theorem dX11_worst_89 : decode cX11_worst 89 = .ok (.iload 5, 2) := by decide +kernel
theorem dX11_worst_91 : decode cX11_worst 91 = .ok (.iload 6, 2) := by decide +kernel
theorem dX11_worst_93 : decode cX11_worst 93 = .ok (.iconst 0, 1) := by decide +kernel
theorem dX11_worst_94 : decode cX11_worst 94 = .ok (.invokevirtual 479, 3) := by decide +kernel
theorem dX11_worst_97 : decode cX11_worst 97 = .ok (.aload_n 0, 1) := by decide +kernel
theorem dX11_worst_98 : decode cX11_worst 98 = .ok (.getfield 468, 3) := by decide +kernel
