theorem dX11_district_0 : decode cX11_district 0 = .ok (.aload_n 0, 1) := by decide +kernel
theorem dX11_district_1 : decode cX11_district 1 = .ok (.iconst 0, 1) := by decide +kernel
theorem dX11_district_100 : decode cX11_district 100 = .ok (.iconst 2, 1) := by decide +kernel
theorem dX11_district_101 : decode cX11_district 101 = .ok (.aload_n 0, 1) := by decide +kernel
theorem dX11_district_102 : decode cX11_district 102 = .ok (.iconst 1, 1) := by decide +kernel
theorem dX11_district_103 : decode cX11_district 103 = .ok (.bipush 9, 2) := by decide +kernel
theorem dX11_district_105 : decode cX11_district 105 = .ok (.invokevirtual 212, 3) := by decide +kernel
theorem dX11_district_108 : decode cX11_district 108 = .ok (.iastore, 1) := by decide +kernel
theorem dX11_district_109 : decode cX11_district 109 = .ok (.aload_n 0, 1) := by decide +kernel
theorem dX11_district_110 : decode cX11_district 110 = .ok (.invokevirtual 266, 3) := by decide +kernel
theorem dX11_district_113 : decode cX11_district 113 = .ok (.aload_n 0, 1) := by decide +kernel
theorem dX11_district_114 : decode cX11_district 114 = .ok (.getfield 105, 3) := by decide +kernel
theorem dX11_district_117 : decode cX11_district 117 = .ok (.ifCond .ne 17, 3) := by decide +kernel
theorem dX11_district_12 : decode cX11_district 12 = .ok (.i2l, 1) := by decide +kernel
theorem dX11_district_120 : decode cX11_district 120 = .ok (.aload_n 0, 1) := by decide +kernel
theorem dX11_district_121 : decode cX11_district 121 = .ok (.getfield 85, 3) := by decide +kernel
theorem dX11_district_124 : decode cX11_district 124 = .ok (.ifCond .eq 10, 3) := by decide +kernel
theorem dX11_district_127 : decode cX11_district 127 = .ok (.aload_n 0, 1) := by decide +kernel
theorem dX11_district_128 : decode cX11_district 128 = .ok (.invokevirtual 274, 3) := by decide +kernel
theorem dX11_district_13 : decode cX11_district 13 = .ok (.invokestatic 131, 3) := by decide +kernel
theorem dX11_district_131 : decode cX11_district 131 = .ok (.goto (-18), 3) := by decide +kernel
theorem dX11_district_134 : decode cX11_district 134 = .ok (.aload_n 0, 1) := by decide +kernel
theorem dX11_district_135 : decode cX11_district 135 = .ok (.aload_n 0, 1) := by decide +kernel
theorem dX11_district_136 : decode cX11_district 136 = .ok (.getfield 105, 3) := by decide +kernel
theorem dX11_district_139 : decode cX11_district 139 = .ok (.putfield 277, 3) := by decide +kernel
theorem dX11_district_142 : decode cX11_district 142 = .ok (.aload_n 0, 1) := by decide +kernel
theorem dX11_district_143 : decode cX11_district 143 = .ok (.aload_n 0, 1) := by decide +kernel
theorem dX11_district_144 : decode cX11_district 144 = .ok (.getfield 105, 3) := by decide +kernel
theorem dX11_district_147 : decode cX11_district 147 = .ok (.ifCond .ne 7, 3) := by decide +kernel
theorem dX11_district_150 : decode cX11_district 150 = .ok (.iconst (-1), 1) := by decide +kernel
theorem dX11_district_151 : decode cX11_district 151 = .ok (.goto 7, 3) := by decide +kernel
theorem dX11_district_154 : decode cX11_district 154 = .ok (.aload_n 0, 1) := by decide +kernel
theorem dX11_district_155 : decode cX11_district 155 = .ok (.getfield 108, 3) := by decide +kernel
theorem dX11_district_158 : decode cX11_district 158 = .ok (.putfield 26, 3) := by decide +kernel
theorem dX11_district_16 : decode cX11_district 16 = .ok (.ifCond .ne 9, 3) := by decide +kernel
theorem dX11_district_161 : decode cX11_district 161 = .ok (.aload_n 0, 1) := by decide +kernel
theorem dX11_district_162 : decode cX11_district 162 = .ok (.getfield 105, 3) := by decide +kernel
theorem dX11_district_165 : decode cX11_district 165 = .ok (.ifCond .eq 11, 3) := by decide +kernel
theorem dX11_district_168 : decode cX11_district 168 = .ok (.bipush (-10), 2) := by decide +kernel
theorem dX11_district_170 : decode cX11_district 170 = .ok (.aload_n 0, 1) := by decide +kernel
theorem dX11_district_171 : decode cX11_district 171 = .ok (.getfield 105, 3) := by decide +kernel
theorem dX11_district_174 : decode cX11_district 174 = .ok (.isub, 1) := by decide +kernel
theorem dX11_district_175 : decode cX11_district 175 = .ok (.ireturn, 1) := by decide +kernel
theorem dX11_district_176 : decode cX11_district 176 = .ok (.iconst 0, 1) := by decide +kernel
theorem dX11_district_177 : decode cX11_district 177 = .ok (.istore_n 2, 1) := by decide +kernel
theorem dX11_district_178 : decode cX11_district 178 = .ok (.iload_n 2, 1) := by decide +kernel
theorem dX11_district_179 : decode cX11_district 179 = .ok (.sipush 2260, 3) := by decide +kernel
theorem dX11_district_182 : decode cX11_district 182 = .ok (.if_icmp .ge 21, 3) := by decide +kernel
theorem dX11_district_185 : decode cX11_district 185 = .ok (.aload_n 0, 1) := by decide +kernel
theorem dX11_district_186 : decode cX11_district 186 = .ok (.getfield 9, 3) := by decide +kernel
theorem dX11_district_189 : decode cX11_district 189 = .ok (.iload_n 2, 1) := by decide +kernel
theorem dX11_district_19 : decode cX11_district 19 = .ok (.aload_n 0, 1) := by decide +kernel
theorem dX11_district_190 : decode cX11_district 190 = .ok (.aload_n 0, 1) := by decide +kernel
theorem dX11_district_191 : decode cX11_district 191 = .ok (.getfield 13, 3) := by decide +kernel
theorem dX11_district_194 : decode cX11_district 194 = .ok (.iload_n 2, 1) := by decide +kernel
theorem dX11_district_195 : decode cX11_district 195 = .ok (.iaload, 1) := by decide +kernel
theorem dX11_district_196 : decode cX11_district 196 = .ok (.iastore, 1) := by decide +kernel
theorem dX11_district_197 : decode cX11_district 197 = .ok (.iinc 2 1, 3) := by decide +kernel
theorem dX11_district_2 : decode cX11_district 2 = .ok (.putfield 70, 3) := by decide +kernel
theorem dX11_district_20 : decode cX11_district 20 = .ok (.iconst 1, 1) := by decide +kernel
theorem dX11_district_200 : decode cX11_district 200 = .ok (.goto (-22), 3) := by decide +kernel
theorem dX11_district_203 : decode cX11_district 203 = .ok (.iconst 0, 1) := by decide +kernel
theorem dX11_district_204 : decode cX11_district 204 = .ok (.istore_n 2, 1) := by decide +kernel
theorem dX11_district_205 : decode cX11_district 205 = .ok (.iload_n 2, 1) := by decide +kernel
theorem dX11_district_206 : decode cX11_district 206 = .ok (.aload_n 0, 1) := by decide +kernel
theorem dX11_district_207 : decode cX11_district 207 = .ok (.invokevirtual 280, 3) := by decide +kernel
theorem dX11_district_21 : decode cX11_district 21 = .ok (.invokevirtual 269, 3) := by decide +kernel
theorem dX11_district_210 : decode cX11_district 210 = .ok (.if_icmp .ge 57, 3) := by decide +kernel
theorem dX11_district_213 : decode cX11_district 213 = .ok (.aload_n 0, 1) := by decide +kernel
theorem dX11_district_214 : decode cX11_district 214 = .ok (.getfield 9, 3) := by decide +kernel
theorem dX11_district_217 : decode cX11_district 217 = .ok (.bipush 32, 2) := by decide +kernel
theorem dX11_district_219 : decode cX11_district 219 = .ok (.iload_n 2, 1) := by decide +kernel
theorem dX11_district_220 : decode cX11_district 220 = .ok (.iadd, 1) := by decide +kernel
theorem dX11_district_221 : decode cX11_district 221 = .ok (.aload_n 0, 1) := by decide +kernel
theorem dX11_district_222 : decode cX11_district 222 = .ok (.getfield 9, 3) := by decide +kernel
theorem dX11_district_225 : decode cX11_district 225 = .ok (.bipush 40, 2) := by decide +kernel
theorem dX11_district_227 : decode cX11_district 227 = .ok (.iaload, 1) := by decide +kernel
theorem dX11_district_228 : decode cX11_district 228 = .ok (.aload_n 0, 1) := by decide +kernel
theorem dX11_district_229 : decode cX11_district 229 = .ok (.iload_n 2, 1) := by decide +kernel
theorem dX11_district_230 : decode cX11_district 230 = .ok (.iconst 0, 1) := by decide +kernel
theorem dX11_district_231 : decode cX11_district 231 = .ok (.invokevirtual 283, 3) := by decide +kernel
theorem dX11_district_234 : decode cX11_district 234 = .ok (.ifCond .eq 16, 3) := by decide +kernel
theorem dX11_district_237 : decode cX11_district 237 = .ok (.aload_n 0, 1) := by decide +kernel
theorem dX11_district_238 : decode cX11_district 238 = .ok (.getfield 9, 3) := by decide +kernel
theorem dX11_district_24 : decode cX11_district 24 = .ok (.ireturn, 1) := by decide +kernel
theorem dX11_district_241 : decode cX11_district 241 = .ok (.bipush 32, 2) := by decide +kernel
theorem dX11_district_243 : decode cX11_district 243 = .ok (.iload_n 2, 1) := by decide +kernel
theorem dX11_district_244 : decode cX11_district 244 = .ok (.iadd, 1) := by decide +kernel
theorem dX11_district_245 : decode cX11_district 245 = .ok (.iaload, 1) := by decide +kernel
theorem dX11_district_246 : decode cX11_district 246 = .ok (.ineg, 1) := by decide +kernel
theorem dX11_district_247 : decode cX11_district 247 = .ok (.goto 12, 3) := by decide +kernel
theorem dX11_district_25 : decode cX11_district 25 = .ok (.aload_n 0, 1) := by decide +kernel
theorem dX11_district_250 : decode cX11_district 250 = .ok (.aload_n 0, 1) := by decide +kernel
theorem dX11_district_251 : decode cX11_district 251 = .ok (.getfield 9, 3) := by decide +kernel
theorem dX11_district_254 : decode cX11_district 254 = .ok (.bipush 32, 2) := by decide +kernel
theorem dX11_district_256 : decode cX11_district 256 = .ok (.iload_n 2, 1) := by decide +kernel
theorem dX11_district_257 : decode cX11_district 257 = .ok (.iadd, 1) := by decide +kernel
theorem dX11_district_258 : decode cX11_district 258 = .ok (.iaload, 1) := by decide +kernel
theorem dX11_district_259 : decode cX11_district 259 = .ok (.iadd, 1) := by decide +kernel
theorem dX11_district_26 : decode cX11_district 26 = .ok (.iload_n 1, 1) := by decide +kernel
theorem dX11_district_260 : decode cX11_district 260 = .ok (.iastore, 1) := by decide +kernel
theorem dX11_district_261 : decode cX11_district 261 = .ok (.iinc 2 1, 3) := by decide +kernel
theorem dX11_district_264 : decode cX11_district 264 = .ok (.goto (-59), 3) := by decide +kernel
theorem dX11_district_267 : decode cX11_district 267 = .ok (.aload_n 0, 1) := by decide +kernel
theorem dX11_district_268 : decode cX11_district 268 = .ok (.getfield 9, 3) := by decide +kernel
theorem dX11_district_27 : decode cX11_district 27 = .ok (.putfield 76, 3) := by decide +kernel
theorem dX11_district_271 : decode cX11_district 271 = .ok (.iconst 0, 1) := by decide +kernel
theorem dX11_district_272 : decode cX11_district 272 = .ok (.iaload, 1) := by decide +kernel
theorem dX11_district_273 : decode cX11_district 273 = .ok (.ireturn, 1) := by decide +kernel
theorem dX11_district_30 : decode cX11_district 30 = .ok (.aload_n 0, 1) := by decide +kernel
theorem dX11_district_31 : decode cX11_district 31 = .ok (.iconst 0, 1) := by decide +kernel
theorem dX11_district_32 : decode cX11_district 32 = .ok (.putfield 73, 3) := by decide +kernel
theorem dX11_district_35 : decode cX11_district 35 = .ok (.aload_n 0, 1) := by decide +kernel
theorem dX11_district_36 : decode cX11_district 36 = .ok (.iconst 0, 1) := by decide +kernel
theorem dX11_district_37 : decode cX11_district 37 = .ok (.putfield 79, 3) := by decide +kernel
theorem dX11_district_40 : decode cX11_district 40 = .ok (.aload_n 0, 1) := by decide +kernel
theorem dX11_district_41 : decode cX11_district 41 = .ok (.iconst 0, 1) := by decide +kernel
theorem dX11_district_42 : decode cX11_district 42 = .ok (.putfield 105, 3) := by decide +kernel
theorem dX11_district_45 : decode cX11_district 45 = .ok (.aload_n 0, 1) := by decide +kernel
theorem dX11_district_46 : decode cX11_district 46 = .ok (.iconst 0, 1) := by decide +kernel
theorem dX11_district_47 : decode cX11_district 47 = .ok (.putfield 144, 3) := by decide +kernel
theorem dX11_district_5 : decode cX11_district 5 = .ok (.iload_n 1, 1) := by decide +kernel
theorem dX11_district_50 : decode cX11_district 50 = .ok (.iconst 0, 1) := by decide +kernel
theorem dX11_district_51 : decode cX11_district 51 = .ok (.istore_n 2, 1) := by decide +kernel
theorem dX11_district_52 : decode cX11_district 52 = .ok (.iload_n 2, 1) := by decide +kernel
theorem dX11_district_53 : decode cX11_district 53 = .ok (.sipush 2260, 3) := by decide +kernel
theorem dX11_district_56 : decode cX11_district 56 = .ok (.if_icmp .ge 16, 3) := by decide +kernel
theorem dX11_district_59 : decode cX11_district 59 = .ok (.aload_n 0, 1) := by decide +kernel
theorem dX11_district_6 : decode cX11_district 6 = .ok (.i2l, 1) := by decide +kernel
theorem dX11_district_60 : decode cX11_district 60 = .ok (.getfield 13, 3) := by decide +kernel
theorem dX11_district_63 : decode cX11_district 63 = .ok (.iload_n 2, 1) := by decide +kernel
theorem dX11_district_64 : decode cX11_district 64 = .ok (.iconst 0, 1) := by decide +kernel
theorem dX11_district_65 : decode cX11_district 65 = .ok (.iastore, 1) := by decide +kernel
theorem dX11_district_66 : decode cX11_district 66 = .ok (.iinc 2 1, 3) := by decide +kernel
theorem dX11_district_69 : decode cX11_district 69 = .ok (.goto (-17), 3) := by decide +kernel
theorem dX11_district_7 : decode cX11_district 7 = .ok (.lconst 0, 1) := by decide +kernel
theorem dX11_district_72 : decode cX11_district 72 = .ok (.aload_n 0, 1) := by decide +kernel
theorem dX11_district_73 : decode cX11_district 73 = .ok (.invokevirtual 124, 3) := by decide +kernel
theorem dX11_district_76 : decode cX11_district 76 = .ok (.aload_n 0, 1) := by decide +kernel
theorem dX11_district_77 : decode cX11_district 77 = .ok (.ldc_w 272, 3) := by decide +kernel
theorem dX11_district_8 : decode cX11_district 8 = .ok (.aload_n 0, 1) := by decide +kernel
theorem dX11_district_80 : decode cX11_district 80 = .ok (.invokevirtual 222, 3) := by decide +kernel
theorem dX11_district_83 : decode cX11_district 83 = .ok (.aload_n 0, 1) := by decide +kernel
theorem dX11_district_84 : decode cX11_district 84 = .ok (.getfield 13, 3) := by decide +kernel
theorem dX11_district_87 : decode cX11_district 87 = .ok (.iconst 1, 1) := by decide +kernel
theorem dX11_district_88 : decode cX11_district 88 = .ok (.aload_n 0, 1) := by decide +kernel
theorem dX11_district_89 : decode cX11_district 89 = .ok (.iconst 1, 1) := by decide +kernel
theorem dX11_district_9 : decode cX11_district 9 = .ok (.getfield 73, 3) := by decide +kernel
theorem dX11_district_90 : decode cX11_district 90 = .ok (.bipush 6, 2) := by decide +kernel
theorem dX11_district_92 : decode cX11_district 92 = .ok (.invokevirtual 212, 3) := by decide +kernel
theorem dX11_district_95 : decode cX11_district 95 = .ok (.iastore, 1) := by decide +kernel
theorem dX11_district_96 : decode cX11_district 96 = .ok (.aload_n 0, 1) := by decide +kernel
theorem dX11_district_97 : decode cX11_district 97 = .ok (.getfield 13, 3) := by decide +kernel
theorem dX11_lays_0 : decode cX11_lays 0 = .ok (.aload_n 0, 1) := by decide +kernel
theorem dX11_lays_1 : decode cX11_lays 1 = .ok (.getfield 105, 3) := by decide +kernel
theorem dX11_lays_12 : decode cX11_lays 12 = .ok (.bipush 8, 2) := by decide +kernel
theorem dX11_lays_14 : decode cX11_lays 14 = .ok (.iload_n 1, 1) := by decide +kernel
theorem dX11_lays_15 : decode cX11_lays 15 = .ok (.iadd, 1) := by decide +kernel
theorem dX11_lays_16 : decode cX11_lays 16 = .ok (.iload_n 2, 1) := by decide +kernel
theorem dX11_lays_17 : decode cX11_lays 17 = .ok (.iastore, 1) := by decide +kernel
theorem dX11_lays_18 : decode cX11_lays 18 = .ok (.aload_n 0, 1) := by decide +kernel
theorem dX11_lays_19 : decode cX11_lays 19 = .ok (.getfield 13, 3) := by decide +kernel
theorem dX11_lays_22 : decode cX11_lays 22 = .ok (.bipush 16, 2) := by decide +kernel
theorem dX11_lays_24 : decode cX11_lays 24 = .ok (.iload_n 1, 1) := by decide +kernel
theorem dX11_lays_25 : decode cX11_lays 25 = .ok (.iadd, 1) := by decide +kernel
theorem dX11_lays_26 : decode cX11_lays 26 = .ok (.iload_n 3, 1) := by decide +kernel
theorem dX11_lays_27 : decode cX11_lays 27 = .ok (.iastore, 1) := by decide +kernel
theorem dX11_lays_28 : decode cX11_lays 28 = .ok (.aload_n 0, 1) := by decide +kernel
theorem dX11_lays_29 : decode cX11_lays 29 = .ok (.getfield 13, 3) := by decide +kernel
theorem dX11_lays_32 : decode cX11_lays 32 = .ok (.bipush 24, 2) := by decide +kernel
theorem dX11_lays_34 : decode cX11_lays 34 = .ok (.iload_n 1, 1) := by decide +kernel
theorem dX11_lays_35 : decode cX11_lays 35 = .ok (.iadd, 1) := by decide +kernel
theorem dX11_lays_36 : decode cX11_lays 36 = .ok (.iload 4, 2) := by decide +kernel
theorem dX11_lays_38 : decode cX11_lays 38 = .ok (.iastore, 1) := by decide +kernel
theorem dX11_lays_39 : decode cX11_lays 39 = .ok (.aload_n 0, 1) := by decide +kernel
theorem dX11_lays_4 : decode cX11_lays 4 = .ok (.ifCond .eq 4, 3) := by decide +kernel
theorem dX11_lays_40 : decode cX11_lays 40 = .ok (.getfield 13, 3) := by decide +kernel
theorem dX11_lays_43 : decode cX11_lays 43 = .ok (.bipush 32, 2) := by decide +kernel
theorem dX11_lays_45 : decode cX11_lays 45 = .ok (.iload_n 1, 1) := by decide +kernel
theorem dX11_lays_46 : decode cX11_lays 46 = .ok (.iadd, 1) := by decide +kernel
theorem dX11_lays_47 : decode cX11_lays 47 = .ok (.iload 5, 2) := by decide +kernel
theorem dX11_lays_49 : decode cX11_lays 49 = .ok (.iastore, 1) := by decide +kernel
theorem dX11_lays_50 : decode cX11_lays 50 = .ok (.return_, 1) := by decide +kernel
theorem dX11_lays_7 : decode cX11_lays 7 = .ok (.return_, 1) := by decide +kernel
theorem dX11_lays_8 : decode cX11_lays 8 = .ok (.aload_n 0, 1) := by decide +kernel
theorem dX11_lays_9 : decode cX11_lays 9 = .ok (.getfield 13, 3) := by decide +kernel
theorem dX11_readLine_0 : decode cX11_readLine 0 = .ok (.aload_n 0, 1) := by decide +kernel
theorem dX11_readLine_1 : decode cX11_readLine 1 = .ok (.ldc 248, 2) := by decide +kernel
theorem dX11_readLine_10 : decode cX11_readLine 10 = .ok (.invokevirtual 250, 3) := by decide +kernel
theorem dX11_readLine_100 : decode cX11_readLine 100 = .ok (.aload_n 0, 1) := by decide +kernel
theorem dX11_readLine_101 : decode cX11_readLine 101 = .ok (.bipush 6, 2) := by decide +kernel
theorem dX11_readLine_103 : decode cX11_readLine 103 = .ok (.sipush 1359, 3) := by decide +kernel
theorem dX11_readLine_106 : decode cX11_readLine 106 = .ok (.invokevirtual 260, 3) := by decide +kernel
theorem dX11_readLine_109 : decode cX11_readLine 109 = .ok (.aload_n 0, 1) := by decide +kernel
theorem dX11_readLine_110 : decode cX11_readLine 110 = .ok (.bipush 58, 2) := by decide +kernel
theorem dX11_readLine_112 : decode cX11_readLine 112 = .ok (.invokevirtual 171, 3) := by decide +kernel
theorem dX11_readLine_115 : decode cX11_readLine 115 = .ok (.aload_n 0, 1) := by decide +kernel
theorem dX11_readLine_116 : decode cX11_readLine 116 = .ok (.invokevirtual 168, 3) := by decide +kernel
theorem dX11_readLine_119 : decode cX11_readLine 119 = .ok (.goto 8, 3) := by decide +kernel
theorem dX11_readLine_122 : decode cX11_readLine 122 = .ok (.aload_n 0, 1) := by decide +kernel
theorem dX11_readLine_123 : decode cX11_readLine 123 = .ok (.iconst 2, 1) := by decide +kernel
theorem dX11_readLine_124 : decode cX11_readLine 124 = .ok (.invokevirtual 127, 3) := by decide +kernel
theorem dX11_readLine_127 : decode cX11_readLine 127 = .ok (.aload_n 0, 1) := by decide +kernel
theorem dX11_readLine_128 : decode cX11_readLine 128 = .ok (.invokevirtual 266, 3) := by decide +kernel
theorem dX11_readLine_13 : decode cX11_readLine 13 = .ok (.goto 114, 3) := by decide +kernel
theorem dX11_readLine_131 : decode cX11_readLine 131 = .ok (.return_, 1) := by decide +kernel
theorem dX11_readLine_16 : decode cX11_readLine 16 = .ok (.aload_n 0, 1) := by decide +kernel
theorem dX11_readLine_17 : decode cX11_readLine 17 = .ok (.ldc 253, 2) := by decide +kernel
theorem dX11_readLine_19 : decode cX11_readLine 19 = .ok (.invokevirtual 120, 3) := by decide +kernel
theorem dX11_readLine_22 : decode cX11_readLine 22 = .ok (.ifCond .eq 10, 3) := by decide +kernel
theorem dX11_readLine_25 : decode cX11_readLine 25 = .ok (.aload_n 0, 1) := by decide +kernel
theorem dX11_readLine_26 : decode cX11_readLine 26 = .ok (.invokevirtual 255, 3) := by decide +kernel
theorem dX11_readLine_29 : decode cX11_readLine 29 = .ok (.goto 98, 3) := by decide +kernel
theorem dX11_readLine_3 : decode cX11_readLine 3 = .ok (.invokevirtual 120, 3) := by decide +kernel
theorem dX11_readLine_32 : decode cX11_readLine 32 = .ok (.aload_n 0, 1) := by decide +kernel
theorem dX11_readLine_33 : decode cX11_readLine 33 = .ok (.ldc 191, 2) := by decide +kernel
theorem dX11_readLine_35 : decode cX11_readLine 35 = .ok (.invokevirtual 135, 3) := by decide +kernel
theorem dX11_readLine_38 : decode cX11_readLine 38 = .ok (.ifCond .eq 21, 3) := by decide +kernel
theorem dX11_readLine_41 : decode cX11_readLine 41 = .ok (.aload_n 0, 1) := by decide +kernel
theorem dX11_readLine_42 : decode cX11_readLine 42 = .ok (.getfield 13, 3) := by decide +kernel
theorem dX11_readLine_45 : decode cX11_readLine 45 = .ok (.bipush 40, 2) := by decide +kernel
theorem dX11_readLine_47 : decode cX11_readLine 47 = .ok (.aload_n 0, 1) := by decide +kernel
theorem dX11_readLine_48 : decode cX11_readLine 48 = .ok (.iconst 0, 1) := by decide +kernel
theorem dX11_readLine_49 : decode cX11_readLine 49 = .ok (.sipush 999, 3) := by decide +kernel
theorem dX11_readLine_52 : decode cX11_readLine 52 = .ok (.invokevirtual 212, 3) := by decide +kernel
theorem dX11_readLine_55 : decode cX11_readLine 55 = .ok (.iastore, 1) := by decide +kernel
theorem dX11_readLine_56 : decode cX11_readLine 56 = .ok (.goto 71, 3) := by decide +kernel
theorem dX11_readLine_59 : decode cX11_readLine 59 = .ok (.aload_n 0, 1) := by decide +kernel
theorem dX11_readLine_6 : decode cX11_readLine 6 = .ok (.ifCond .eq 10, 3) := by decide +kernel
theorem dX11_readLine_60 : decode cX11_readLine 60 = .ok (.ldc_w 258, 3) := by decide +kernel
theorem dX11_readLine_63 : decode cX11_readLine 63 = .ok (.invokevirtual 135, 3) := by decide +kernel
theorem dX11_readLine_66 : decode cX11_readLine 66 = .ok (.ifCond .eq 24, 3) := by decide +kernel
theorem dX11_readLine_69 : decode cX11_readLine 69 = .ok (.aload_n 0, 1) := by decide +kernel
theorem dX11_readLine_70 : decode cX11_readLine 70 = .ok (.iconst 5, 1) := by decide +kernel
theorem dX11_readLine_71 : decode cX11_readLine 71 = .ok (.sipush 459, 3) := by decide +kernel
theorem dX11_readLine_74 : decode cX11_readLine 74 = .ok (.invokevirtual 260, 3) := by decide +kernel
theorem dX11_readLine_77 : decode cX11_readLine 77 = .ok (.aload_n 0, 1) := by decide +kernel
theorem dX11_readLine_78 : decode cX11_readLine 78 = .ok (.bipush 58, 2) := by decide +kernel
theorem dX11_readLine_80 : decode cX11_readLine 80 = .ok (.invokevirtual 171, 3) := by decide +kernel
theorem dX11_readLine_83 : decode cX11_readLine 83 = .ok (.aload_n 0, 1) := by decide +kernel
theorem dX11_readLine_84 : decode cX11_readLine 84 = .ok (.invokevirtual 174, 3) := by decide +kernel
theorem dX11_readLine_87 : decode cX11_readLine 87 = .ok (.goto 40, 3) := by decide +kernel
theorem dX11_readLine_9 : decode cX11_readLine 9 = .ok (.aload_n 0, 1) := by decide +kernel
theorem dX11_readLine_90 : decode cX11_readLine 90 = .ok (.aload_n 0, 1) := by decide +kernel
theorem dX11_readLine_91 : decode cX11_readLine 91 = .ok (.ldc_w 264, 3) := by decide +kernel
theorem dX11_readLine_94 : decode cX11_readLine 94 = .ok (.invokevirtual 135, 3) := by decide +kernel
theorem dX11_readLine_97 : decode cX11_readLine 97 = .ok (.ifCond .eq 25, 3) := by decide +kernel
theorem dX11_readOn_0 : decode cX11_readOn 0 = .ok (.aload_n 0, 1) := by decide +kernel
theorem dX11_readOn_1 : decode cX11_readOn 1 = .ok (.getfield 105, 3) := by decide +kernel
theorem dX11_readOn_11 : decode cX11_readOn 11 = .ok (.iconst 2, 1) := by decide +kernel
theorem dX11_readOn_12 : decode cX11_readOn 12 = .ok (.if_icmp .ne 46, 3) := by decide +kernel
theorem dX11_readOn_15 : decode cX11_readOn 15 = .ok (.aload_n 0, 1) := by decide +kernel
theorem dX11_readOn_16 : decode cX11_readOn 16 = .ok (.getfield 99, 3) := by decide +kernel
theorem dX11_readOn_19 : decode cX11_readOn 19 = .ok (.aload_n 0, 1) := by decide +kernel
theorem dX11_readOn_20 : decode cX11_readOn 20 = .ok (.getfield 13, 3) := by decide +kernel
theorem dX11_readOn_23 : decode cX11_readOn 23 = .ok (.iconst 1, 1) := by decide +kernel
theorem dX11_readOn_24 : decode cX11_readOn 24 = .ok (.iaload, 1) := by decide +kernel
theorem dX11_readOn_25 : decode cX11_readOn 25 = .ok (.if_icmp .ge 33, 3) := by decide +kernel
theorem dX11_readOn_28 : decode cX11_readOn 28 = .ok (.aload_n 0, 1) := by decide +kernel
theorem dX11_readOn_29 : decode cX11_readOn 29 = .ok (.getfield 13, 3) := by decide +kernel
theorem dX11_readOn_32 : decode cX11_readOn 32 = .ok (.aload_n 0, 1) := by decide +kernel
theorem dX11_readOn_33 : decode cX11_readOn 33 = .ok (.getfield 99, 3) := by decide +kernel
theorem dX11_readOn_36 : decode cX11_readOn 36 = .ok (.aload_n 0, 1) := by decide +kernel
theorem dX11_readOn_37 : decode cX11_readOn 37 = .ok (.getfield 13, 3) := by decide +kernel
theorem dX11_readOn_4 : decode cX11_readOn 4 = .ok (.ifCond .ne 54, 3) := by decide +kernel
theorem dX11_readOn_40 : decode cX11_readOn 40 = .ok (.aload_n 0, 1) := by decide +kernel
theorem dX11_readOn_41 : decode cX11_readOn 41 = .ok (.getfield 99, 3) := by decide +kernel
theorem dX11_readOn_44 : decode cX11_readOn 44 = .ok (.invokestatic 230, 3) := by decide +kernel
theorem dX11_readOn_47 : decode cX11_readOn 47 = .ok (.invokestatic 216, 3) := by decide +kernel
theorem dX11_readOn_50 : decode cX11_readOn 50 = .ok (.ifCond .ne 8, 3) := by decide +kernel
theorem dX11_readOn_53 : decode cX11_readOn 53 = .ok (.aload_n 0, 1) := by decide +kernel
theorem dX11_readOn_54 : decode cX11_readOn 54 = .ok (.iconst 3, 1) := by decide +kernel
theorem dX11_readOn_55 : decode cX11_readOn 55 = .ok (.invokevirtual 127, 3) := by decide +kernel
theorem dX11_readOn_58 : decode cX11_readOn 58 = .ok (.aload_n 0, 1) := by decide +kernel
theorem dX11_readOn_59 : decode cX11_readOn 59 = .ok (.iconst 0, 1) := by decide +kernel
theorem dX11_readOn_60 : decode cX11_readOn 60 = .ok (.aload_n 0, 1) := by decide +kernel
theorem dX11_readOn_61 : decode cX11_readOn 61 = .ok (.getfield 13, 3) := by decide +kernel
theorem dX11_readOn_64 : decode cX11_readOn 64 = .ok (.iconst 1, 1) := by decide +kernel
theorem dX11_readOn_65 : decode cX11_readOn 65 = .ok (.iaload, 1) := by decide +kernel
theorem dX11_readOn_66 : decode cX11_readOn 66 = .ok (.iconst 1, 1) := by decide +kernel
theorem dX11_readOn_67 : decode cX11_readOn 67 = .ok (.isub, 1) := by decide +kernel
theorem dX11_readOn_68 : decode cX11_readOn 68 = .ok (.invokevirtual 212, 3) := by decide +kernel
theorem dX11_readOn_7 : decode cX11_readOn 7 = .ok (.aload_n 0, 1) := by decide +kernel
theorem dX11_readOn_71 : decode cX11_readOn 71 = .ok (.istore_n 2, 1) := by decide +kernel
theorem dX11_readOn_72 : decode cX11_readOn 72 = .ok (.aload_n 0, 1) := by decide +kernel
theorem dX11_readOn_73 : decode cX11_readOn 73 = .ok (.iload_n 1, 1) := by decide +kernel
theorem dX11_readOn_74 : decode cX11_readOn 74 = .ok (.iconst 2, 1) := by decide +kernel
theorem dX11_readOn_75 : decode cX11_readOn 75 = .ok (.iload_n 2, 1) := by decide +kernel
theorem dX11_readOn_76 : decode cX11_readOn 76 = .ok (.aload_n 0, 1) := by decide +kernel
theorem dX11_readOn_77 : decode cX11_readOn 77 = .ok (.getfield 13, 3) := by decide +kernel
theorem dX11_readOn_8 : decode cX11_readOn 8 = .ok (.getfield 85, 3) := by decide +kernel
theorem dX11_readOn_80 : decode cX11_readOn 80 = .ok (.iload_n 2, 1) := by decide +kernel
theorem dX11_readOn_81 : decode cX11_readOn 81 = .ok (.invokestatic 230, 3) := by decide +kernel
theorem dX11_readOn_84 : decode cX11_readOn 84 = .ok (.iconst 0, 1) := by decide +kernel
theorem dX11_readOn_85 : decode cX11_readOn 85 = .ok (.invokevirtual 226, 3) := by decide +kernel
theorem dX11_readOn_88 : decode cX11_readOn 88 = .ok (.return_, 1) := by decide +kernel
theorem dX11_readThing_0 : decode cX11_readThing 0 = .ok (.aload_n 0, 1) := by decide +kernel
theorem dX11_readThing_1 : decode cX11_readThing 1 = .ok (.iconst 3, 1) := by decide +kernel
theorem dX11_readThing_10 : decode cX11_readThing 10 = .ok (.return_, 1) := by decide +kernel
theorem dX11_readThing_101 : decode cX11_readThing 101 = .ok (.return_, 1) := by decide +kernel
theorem dX11_readThing_102 : decode cX11_readThing 102 = .ok (.aload_n 0, 1) := by decide +kernel
theorem dX11_readThing_103 : decode cX11_readThing 103 = .ok (.getfield 13, 3) := by decide +kernel
theorem dX11_readThing_106 : decode cX11_readThing 106 = .ok (.bipush 45, 2) := by decide +kernel
theorem dX11_readThing_108 : decode cX11_readThing 108 = .ok (.iload_n 1, 1) := by decide +kernel
theorem dX11_readThing_109 : decode cX11_readThing 109 = .ok (.iadd, 1) := by decide +kernel
theorem dX11_readThing_11 : decode cX11_readThing 11 = .ok (.aload_n 0, 1) := by decide +kernel
theorem dX11_readThing_110 : decode cX11_readThing 110 = .ok (.iload_n 2, 1) := by decide +kernel
theorem dX11_readThing_111 : decode cX11_readThing 111 = .ok (.iastore, 1) := by decide +kernel
theorem dX11_readThing_112 : decode cX11_readThing 112 = .ok (.aload_n 0, 1) := by decide +kernel
theorem dX11_readThing_113 : decode cX11_readThing 113 = .ok (.getfield 13, 3) := by decide +kernel
theorem dX11_readThing_116 : decode cX11_readThing 116 = .ok (.iconst 3, 1) := by decide +kernel
theorem dX11_readThing_117 : decode cX11_readThing 117 = .ok (.dup2, 1) := by decide +kernel
theorem dX11_readThing_118 : decode cX11_readThing 118 = .ok (.iaload, 1) := by decide +kernel
theorem dX11_readThing_119 : decode cX11_readThing 119 = .ok (.iconst 1, 1) := by decide +kernel
theorem dX11_readThing_12 : decode cX11_readThing 12 = .ok (.getfield 13, 3) := by decide +kernel
theorem dX11_readThing_120 : decode cX11_readThing 120 = .ok (.iadd, 1) := by decide +kernel
theorem dX11_readThing_121 : decode cX11_readThing 121 = .ok (.iastore, 1) := by decide +kernel
theorem dX11_readThing_122 : decode cX11_readThing 122 = .ok (.return_, 1) := by decide +kernel
theorem dX11_readThing_15 : decode cX11_readThing 15 = .ok (.iconst 3, 1) := by decide +kernel
theorem dX11_readThing_16 : decode cX11_readThing 16 = .ok (.iaload, 1) := by decide +kernel
theorem dX11_readThing_17 : decode cX11_readThing 17 = .ok (.istore_n 1, 1) := by decide +kernel
theorem dX11_readThing_18 : decode cX11_readThing 18 = .ok (.aload_n 0, 1) := by decide +kernel
theorem dX11_readThing_19 : decode cX11_readThing 19 = .ok (.iconst 1, 1) := by decide +kernel
theorem dX11_readThing_2 : decode cX11_readThing 2 = .ok (.bipush 8, 2) := by decide +kernel
theorem dX11_readThing_20 : decode cX11_readThing 20 = .ok (.bipush 99, 2) := by decide +kernel
theorem dX11_readThing_22 : decode cX11_readThing 22 = .ok (.invokevirtual 212, 3) := by decide +kernel
theorem dX11_readThing_25 : decode cX11_readThing 25 = .ok (.istore_n 2, 1) := by decide +kernel
theorem dX11_readThing_26 : decode cX11_readThing 26 = .ok (.aload_n 0, 1) := by decide +kernel
theorem dX11_readThing_27 : decode cX11_readThing 27 = .ok (.ldc 183, 2) := by decide +kernel
theorem dX11_readThing_29 : decode cX11_readThing 29 = .ok (.invokevirtual 135, 3) := by decide +kernel
theorem dX11_readThing_32 : decode cX11_readThing 32 = .ok (.ifCond .eq 23, 3) := by decide +kernel
theorem dX11_readThing_35 : decode cX11_readThing 35 = .ok (.aload_n 0, 1) := by decide +kernel
theorem dX11_readThing_36 : decode cX11_readThing 36 = .ok (.iconst 0, 1) := by decide +kernel
theorem dX11_readThing_37 : decode cX11_readThing 37 = .ok (.bipush 99, 2) := by decide +kernel
theorem dX11_readThing_39 : decode cX11_readThing 39 = .ok (.invokevirtual 212, 3) := by decide +kernel
theorem dX11_readThing_4 : decode cX11_readThing 4 = .ok (.invokevirtual 234, 3) := by decide +kernel
theorem dX11_readThing_42 : decode cX11_readThing 42 = .ok (.istore_n 3, 1) := by decide +kernel
theorem dX11_readThing_43 : decode cX11_readThing 43 = .ok (.aload_n 0, 1) := by decide +kernel
theorem dX11_readThing_44 : decode cX11_readThing 44 = .ok (.iload_n 1, 1) := by decide +kernel
theorem dX11_readThing_45 : decode cX11_readThing 45 = .ok (.iconst 0, 1) := by decide +kernel
theorem dX11_readThing_46 : decode cX11_readThing 46 = .ok (.iconst (-1), 1) := by decide +kernel
theorem dX11_readThing_47 : decode cX11_readThing 47 = .ok (.iconst (-1), 1) := by decide +kernel
theorem dX11_readThing_48 : decode cX11_readThing 48 = .ok (.iload_n 3, 1) := by decide +kernel
theorem dX11_readThing_49 : decode cX11_readThing 49 = .ok (.invokevirtual 226, 3) := by decide +kernel
theorem dX11_readThing_52 : decode cX11_readThing 52 = .ok (.goto 42, 3) := by decide +kernel
theorem dX11_readThing_55 : decode cX11_readThing 55 = .ok (.aload_n 0, 1) := by decide +kernel
theorem dX11_readThing_56 : decode cX11_readThing 56 = .ok (.ldc 238, 2) := by decide +kernel
theorem dX11_readThing_58 : decode cX11_readThing 58 = .ok (.invokevirtual 135, 3) := by decide +kernel
theorem dX11_readThing_61 : decode cX11_readThing 61 = .ok (.ifCond .eq 11, 3) := by decide +kernel
theorem dX11_readThing_64 : decode cX11_readThing 64 = .ok (.aload_n 0, 1) := by decide +kernel
theorem dX11_readThing_65 : decode cX11_readThing 65 = .ok (.iload_n 1, 1) := by decide +kernel
theorem dX11_readThing_66 : decode cX11_readThing 66 = .ok (.invokevirtual 240, 3) := by decide +kernel
theorem dX11_readThing_69 : decode cX11_readThing 69 = .ok (.goto 25, 3) := by decide +kernel
theorem dX11_readThing_7 : decode cX11_readThing 7 = .ok (.ifCond .ne 4, 3) := by decide +kernel
theorem dX11_readThing_72 : decode cX11_readThing 72 = .ok (.aload_n 0, 1) := by decide +kernel
theorem dX11_readThing_73 : decode cX11_readThing 73 = .ok (.ldc 243, 2) := by decide +kernel
theorem dX11_readThing_75 : decode cX11_readThing 75 = .ok (.invokevirtual 135, 3) := by decide +kernel
theorem dX11_readThing_78 : decode cX11_readThing 78 = .ok (.ifCond .eq 11, 3) := by decide +kernel
theorem dX11_readThing_81 : decode cX11_readThing 81 = .ok (.aload_n 0, 1) := by decide +kernel
theorem dX11_readThing_82 : decode cX11_readThing 82 = .ok (.iload_n 1, 1) := by decide +kernel
theorem dX11_readThing_83 : decode cX11_readThing 83 = .ok (.invokevirtual 245, 3) := by decide +kernel
theorem dX11_readThing_86 : decode cX11_readThing 86 = .ok (.goto 8, 3) := by decide +kernel
theorem dX11_readThing_89 : decode cX11_readThing 89 = .ok (.aload_n 0, 1) := by decide +kernel
theorem dX11_readThing_90 : decode cX11_readThing 90 = .ok (.iconst 2, 1) := by decide +kernel
theorem dX11_readThing_91 : decode cX11_readThing 91 = .ok (.invokevirtual 127, 3) := by decide +kernel
theorem dX11_readThing_94 : decode cX11_readThing 94 = .ok (.aload_n 0, 1) := by decide +kernel
theorem dX11_readThing_95 : decode cX11_readThing 95 = .ok (.getfield 105, 3) := by decide +kernel
theorem dX11_readThing_98 : decode cX11_readThing 98 = .ok (.ifCond .eq 4, 3) := by decide +kernel
theorem dX11_readUp_0 : decode cX11_readUp 0 = .ok (.aload_n 0, 1) := by decide +kernel
theorem dX11_readUp_1 : decode cX11_readUp 1 = .ok (.iconst 0, 1) := by decide +kernel
theorem dX11_readUp_10 : decode cX11_readUp 10 = .ok (.invokevirtual 212, 3) := by decide +kernel
theorem dX11_readUp_101 : decode cX11_readUp 101 = .ok (.return_, 1) := by decide +kernel
theorem dX11_readUp_13 : decode cX11_readUp 13 = .ok (.istore_n 2, 1) := by decide +kernel
theorem dX11_readUp_14 : decode cX11_readUp 14 = .ok (.aload_n 0, 1) := by decide +kernel
theorem dX11_readUp_15 : decode cX11_readUp 15 = .ok (.getfield 105, 3) := by decide +kernel
theorem dX11_readUp_18 : decode cX11_readUp 18 = .ok (.ifCond .ne 44, 3) := by decide +kernel
theorem dX11_readUp_2 : decode cX11_readUp 2 = .ok (.aload_n 0, 1) := by decide +kernel
theorem dX11_readUp_21 : decode cX11_readUp 21 = .ok (.aload_n 0, 1) := by decide +kernel
theorem dX11_readUp_22 : decode cX11_readUp 22 = .ok (.getfield 85, 3) := by decide +kernel
theorem dX11_readUp_25 : decode cX11_readUp 25 = .ok (.iconst 2, 1) := by decide +kernel
theorem dX11_readUp_26 : decode cX11_readUp 26 = .ok (.if_icmp .ne 36, 3) := by decide +kernel
theorem dX11_readUp_29 : decode cX11_readUp 29 = .ok (.aload_n 0, 1) := by decide +kernel
theorem dX11_readUp_3 : decode cX11_readUp 3 = .ok (.getfield 13, 3) := by decide +kernel
theorem dX11_readUp_30 : decode cX11_readUp 30 = .ok (.getfield 99, 3) := by decide +kernel
theorem dX11_readUp_33 : decode cX11_readUp 33 = .ok (.aload_n 0, 1) := by decide +kernel
theorem dX11_readUp_34 : decode cX11_readUp 34 = .ok (.getfield 13, 3) := by decide +kernel
theorem dX11_readUp_37 : decode cX11_readUp 37 = .ok (.iconst 2, 1) := by decide +kernel
theorem dX11_readUp_38 : decode cX11_readUp 38 = .ok (.iaload, 1) := by decide +kernel
theorem dX11_readUp_39 : decode cX11_readUp 39 = .ok (.if_icmp .ge 23, 3) := by decide +kernel
theorem dX11_readUp_42 : decode cX11_readUp 42 = .ok (.aload_n 0, 1) := by decide +kernel
theorem dX11_readUp_43 : decode cX11_readUp 43 = .ok (.getfield 13, 3) := by decide +kernel
theorem dX11_readUp_46 : decode cX11_readUp 46 = .ok (.iload_n 2, 1) := by decide +kernel
theorem dX11_readUp_47 : decode cX11_readUp 47 = .ok (.aload_n 0, 1) := by decide +kernel
theorem dX11_readUp_48 : decode cX11_readUp 48 = .ok (.getfield 99, 3) := by decide +kernel
theorem dX11_readUp_51 : decode cX11_readUp 51 = .ok (.invokestatic 216, 3) := by decide +kernel
theorem dX11_readUp_54 : decode cX11_readUp 54 = .ok (.ifCond .ne 8, 3) := by decide +kernel
theorem dX11_readUp_57 : decode cX11_readUp 57 = .ok (.aload_n 0, 1) := by decide +kernel
theorem dX11_readUp_58 : decode cX11_readUp 58 = .ok (.iconst 3, 1) := by decide +kernel
theorem dX11_readUp_59 : decode cX11_readUp 59 = .ok (.invokevirtual 127, 3) := by decide +kernel
theorem dX11_readUp_6 : decode cX11_readUp 6 = .ok (.iconst 1, 1) := by decide +kernel
theorem dX11_readUp_62 : decode cX11_readUp 62 = .ok (.aload_n 0, 1) := by decide +kernel
theorem dX11_readUp_63 : decode cX11_readUp 63 = .ok (.iconst 0, 1) := by decide +kernel
theorem dX11_readUp_64 : decode cX11_readUp 64 = .ok (.aload_n 0, 1) := by decide +kernel
theorem dX11_readUp_65 : decode cX11_readUp 65 = .ok (.getfield 13, 3) := by decide +kernel
theorem dX11_readUp_68 : decode cX11_readUp 68 = .ok (.iconst 2, 1) := by decide +kernel
theorem dX11_readUp_69 : decode cX11_readUp 69 = .ok (.iaload, 1) := by decide +kernel
theorem dX11_readUp_7 : decode cX11_readUp 7 = .ok (.iaload, 1) := by decide +kernel
theorem dX11_readUp_70 : decode cX11_readUp 70 = .ok (.iconst 1, 1) := by decide +kernel
theorem dX11_readUp_71 : decode cX11_readUp 71 = .ok (.isub, 1) := by decide +kernel
theorem dX11_readUp_72 : decode cX11_readUp 72 = .ok (.invokevirtual 212, 3) := by decide +kernel
theorem dX11_readUp_75 : decode cX11_readUp 75 = .ok (.istore_n 3, 1) := by decide +kernel
theorem dX11_readUp_76 : decode cX11_readUp 76 = .ok (.aload_n 0, 1) := by decide +kernel
theorem dX11_readUp_77 : decode cX11_readUp 77 = .ok (.ldc 220, 2) := by decide +kernel
theorem dX11_readUp_79 : decode cX11_readUp 79 = .ok (.invokevirtual 222, 3) := by decide +kernel
theorem dX11_readUp_8 : decode cX11_readUp 8 = .ok (.iconst 1, 1) := by decide +kernel
theorem dX11_readUp_82 : decode cX11_readUp 82 = .ok (.aload_n 0, 1) := by decide +kernel
theorem dX11_readUp_83 : decode cX11_readUp 83 = .ok (.iconst 1, 1) := by decide +kernel
theorem dX11_readUp_84 : decode cX11_readUp 84 = .ok (.bipush 99, 2) := by decide +kernel
theorem dX11_readUp_86 : decode cX11_readUp 86 = .ok (.invokevirtual 212, 3) := by decide +kernel
theorem dX11_readUp_89 : decode cX11_readUp 89 = .ok (.istore 4, 2) := by decide +kernel
theorem dX11_readUp_9 : decode cX11_readUp 9 = .ok (.isub, 1) := by decide +kernel
theorem dX11_readUp_91 : decode cX11_readUp 91 = .ok (.aload_n 0, 1) := by decide +kernel
theorem dX11_readUp_92 : decode cX11_readUp 92 = .ok (.iload_n 1, 1) := by decide +kernel
theorem dX11_readUp_93 : decode cX11_readUp 93 = .ok (.iconst 1, 1) := by decide +kernel
theorem dX11_readUp_94 : decode cX11_readUp 94 = .ok (.iload_n 2, 1) := by decide +kernel
theorem dX11_readUp_95 : decode cX11_readUp 95 = .ok (.iload_n 3, 1) := by decide +kernel
theorem dX11_readUp_96 : decode cX11_readUp 96 = .ok (.iload 4, 2) := by decide +kernel
theorem dX11_readUp_98 : decode cX11_readUp 98 = .ok (.invokevirtual 226, 3) := by decide +kernel
theorem dX11_readWalker_0 : decode cX11_readWalker 0 = .ok (.aload_n 0, 1) := by decide +kernel
theorem dX11_readWalker_1 : decode cX11_readWalker 1 = .ok (.iconst 4, 1) := by decide +kernel
theorem dX11_readWalker_10 : decode cX11_readWalker 10 = .ok (.aload_n 0, 1) := by decide +kernel
theorem dX11_readWalker_100 : decode cX11_readWalker 100 = .ok (.iload_n 2, 1) := by decide +kernel
theorem dX11_readWalker_101 : decode cX11_readWalker 101 = .ok (.iastore, 1) := by decide +kernel
theorem dX11_readWalker_102 : decode cX11_readWalker 102 = .ok (.aload_n 0, 1) := by decide +kernel
theorem dX11_readWalker_103 : decode cX11_readWalker 103 = .ok (.getfield 13, 3) := by decide +kernel
theorem dX11_readWalker_106 : decode cX11_readWalker 106 = .ok (.iconst 4, 1) := by decide +kernel
theorem dX11_readWalker_107 : decode cX11_readWalker 107 = .ok (.dup2, 1) := by decide +kernel
theorem dX11_readWalker_108 : decode cX11_readWalker 108 = .ok (.iaload, 1) := by decide +kernel
theorem dX11_readWalker_109 : decode cX11_readWalker 109 = .ok (.iconst 1, 1) := by decide +kernel
theorem dX11_readWalker_11 : decode cX11_readWalker 11 = .ok (.getfield 13, 3) := by decide +kernel
theorem dX11_readWalker_110 : decode cX11_readWalker 110 = .ok (.iadd, 1) := by decide +kernel
theorem dX11_readWalker_111 : decode cX11_readWalker 111 = .ok (.iastore, 1) := by decide +kernel
theorem dX11_readWalker_112 : decode cX11_readWalker 112 = .ok (.return_, 1) := by decide +kernel
theorem dX11_readWalker_14 : decode cX11_readWalker 14 = .ok (.iconst 4, 1) := by decide +kernel
theorem dX11_readWalker_15 : decode cX11_readWalker 15 = .ok (.iaload, 1) := by decide +kernel
theorem dX11_readWalker_16 : decode cX11_readWalker 16 = .ok (.istore_n 1, 1) := by decide +kernel
theorem dX11_readWalker_17 : decode cX11_readWalker 17 = .ok (.iconst 0, 1) := by decide +kernel
theorem dX11_readWalker_18 : decode cX11_readWalker 18 = .ok (.istore_n 2, 1) := by decide +kernel
theorem dX11_readWalker_19 : decode cX11_readWalker 19 = .ok (.iload_n 2, 1) := by decide +kernel
theorem dX11_readWalker_2 : decode cX11_readWalker 2 = .ok (.iconst 4, 1) := by decide +kernel
theorem dX11_readWalker_20 : decode cX11_readWalker 20 = .ok (.bipush 8, 2) := by decide +kernel
theorem dX11_readWalker_22 : decode cX11_readWalker 22 = .ok (.if_icmp .ne 8, 3) := by decide +kernel
theorem dX11_readWalker_25 : decode cX11_readWalker 25 = .ok (.aload_n 0, 1) := by decide +kernel
theorem dX11_readWalker_26 : decode cX11_readWalker 26 = .ok (.iconst 2, 1) := by decide +kernel
theorem dX11_readWalker_27 : decode cX11_readWalker 27 = .ok (.invokevirtual 127, 3) := by decide +kernel
theorem dX11_readWalker_3 : decode cX11_readWalker 3 = .ok (.invokevirtual 234, 3) := by decide +kernel
theorem dX11_readWalker_30 : decode cX11_readWalker 30 = .ok (.aload_n 0, 1) := by decide +kernel
theorem dX11_readWalker_31 : decode cX11_readWalker 31 = .ok (.iconst 0, 1) := by decide +kernel
theorem dX11_readWalker_32 : decode cX11_readWalker 32 = .ok (.aload_n 0, 1) := by decide +kernel
theorem dX11_readWalker_33 : decode cX11_readWalker 33 = .ok (.getfield 13, 3) := by decide +kernel
theorem dX11_readWalker_36 : decode cX11_readWalker 36 = .ok (.iconst 1, 1) := by decide +kernel
theorem dX11_readWalker_37 : decode cX11_readWalker 37 = .ok (.iaload, 1) := by decide +kernel
theorem dX11_readWalker_38 : decode cX11_readWalker 38 = .ok (.iconst 1, 1) := by decide +kernel
theorem dX11_readWalker_39 : decode cX11_readWalker 39 = .ok (.isub, 1) := by decide +kernel
theorem dX11_readWalker_40 : decode cX11_readWalker 40 = .ok (.invokevirtual 212, 3) := by decide +kernel
theorem dX11_readWalker_43 : decode cX11_readWalker 43 = .ok (.istore_n 3, 1) := by decide +kernel
theorem dX11_readWalker_44 : decode cX11_readWalker 44 = .ok (.aload_n 0, 1) := by decide +kernel
theorem dX11_readWalker_45 : decode cX11_readWalker 45 = .ok (.getfield 105, 3) := by decide +kernel
theorem dX11_readWalker_48 : decode cX11_readWalker 48 = .ok (.ifCond .ne 18, 3) := by decide +kernel
theorem dX11_readWalker_51 : decode cX11_readWalker 51 = .ok (.aload_n 0, 1) := by decide +kernel
theorem dX11_readWalker_52 : decode cX11_readWalker 52 = .ok (.getfield 13, 3) := by decide +kernel
theorem dX11_readWalker_55 : decode cX11_readWalker 55 = .ok (.bipush 57, 2) := by decide +kernel
theorem dX11_readWalker_57 : decode cX11_readWalker 57 = .ok (.bipush 8, 2) := by decide +kernel
theorem dX11_readWalker_59 : decode cX11_readWalker 59 = .ok (.iload_n 1, 1) := by decide +kernel
theorem dX11_readWalker_6 : decode cX11_readWalker 6 = .ok (.ifCond .ne 4, 3) := by decide +kernel
theorem dX11_readWalker_60 : decode cX11_readWalker 60 = .ok (.imul, 1) := by decide +kernel
theorem dX11_readWalker_61 : decode cX11_readWalker 61 = .ok (.iadd, 1) := by decide +kernel
theorem dX11_readWalker_62 : decode cX11_readWalker 62 = .ok (.iload_n 2, 1) := by decide +kernel
theorem dX11_readWalker_63 : decode cX11_readWalker 63 = .ok (.iadd, 1) := by decide +kernel
theorem dX11_readWalker_64 : decode cX11_readWalker 64 = .ok (.iload_n 3, 1) := by decide +kernel
theorem dX11_readWalker_65 : decode cX11_readWalker 65 = .ok (.iastore, 1) := by decide +kernel
theorem dX11_readWalker_66 : decode cX11_readWalker 66 = .ok (.iinc 2 1, 3) := by decide +kernel
theorem dX11_readWalker_69 : decode cX11_readWalker 69 = .ok (.aload_n 0, 1) := by decide +kernel
theorem dX11_readWalker_70 : decode cX11_readWalker 70 = .ok (.getfield 105, 3) := by decide +kernel
theorem dX11_readWalker_73 : decode cX11_readWalker 73 = .ok (.ifCond .ne 11, 3) := by decide +kernel
theorem dX11_readWalker_76 : decode cX11_readWalker 76 = .ok (.aload_n 0, 1) := by decide +kernel
theorem dX11_readWalker_77 : decode cX11_readWalker 77 = .ok (.getfield 85, 3) := by decide +kernel
theorem dX11_readWalker_80 : decode cX11_readWalker 80 = .ok (.iconst 2, 1) := by decide +kernel
theorem dX11_readWalker_81 : decode cX11_readWalker 81 = .ok (.if_icmp .eq (-62), 3) := by decide +kernel
theorem dX11_readWalker_84 : decode cX11_readWalker 84 = .ok (.aload_n 0, 1) := by decide +kernel
theorem dX11_readWalker_85 : decode cX11_readWalker 85 = .ok (.getfield 105, 3) := by decide +kernel
theorem dX11_readWalker_88 : decode cX11_readWalker 88 = .ok (.ifCond .eq 4, 3) := by decide +kernel
theorem dX11_readWalker_9 : decode cX11_readWalker 9 = .ok (.return_, 1) := by decide +kernel
theorem dX11_readWalker_91 : decode cX11_readWalker 91 = .ok (.return_, 1) := by decide +kernel
theorem dX11_readWalker_92 : decode cX11_readWalker 92 = .ok (.aload_n 0, 1) := by decide +kernel
theorem dX11_readWalker_93 : decode cX11_readWalker 93 = .ok (.getfield 13, 3) := by decide +kernel
theorem dX11_readWalker_96 : decode cX11_readWalker 96 = .ok (.bipush 53, 2) := by decide +kernel
theorem dX11_readWalker_98 : decode cX11_readWalker 98 = .ok (.iload_n 1, 1) := by decide +kernel
theorem dX11_readWalker_99 : decode cX11_readWalker 99 = .ok (.iadd, 1) := by decide +kernel
