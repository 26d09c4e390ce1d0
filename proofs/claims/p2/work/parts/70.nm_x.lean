theorem dX11_does_0 : decode cX11_does 0 = .ok (.iload_n 1, 1) := by decide +kernel
theorem dX11_does_1 : decode cX11_does 1 = .ok (.iconst (-1), 1) := by decide +kernel
theorem dX11_does_12 : decode cX11_does 12 = .ok (.iload_n 1, 1) := by decide +kernel
theorem dX11_does_13 : decode cX11_does 13 = .ok (.sipush 1000, 3) := by decide +kernel
theorem dX11_does_16 : decode cX11_does 16 = .ok (.if_icmp .ge 26, 3) := by decide +kernel
theorem dX11_does_19 : decode cX11_does 19 = .ok (.aload_n 0, 1) := by decide +kernel
theorem dX11_does_2 : decode cX11_does 2 = .ok (.if_icmp .ne 10, 3) := by decide +kernel
theorem dX11_does_20 : decode cX11_does 20 = .ok (.iload_n 1, 1) := by decide +kernel
theorem dX11_does_21 : decode cX11_does 21 = .ok (.bipush 100, 2) := by decide +kernel
theorem dX11_does_23 : decode cX11_does 23 = .ok (.idiv, 1) := by decide +kernel
theorem dX11_does_24 : decode cX11_does 24 = .ok (.iload_n 1, 1) := by decide +kernel
theorem dX11_does_25 : decode cX11_does 25 = .ok (.bipush 10, 2) := by decide +kernel
theorem dX11_does_27 : decode cX11_does 27 = .ok (.idiv, 1) := by decide +kernel
theorem dX11_does_28 : decode cX11_does 28 = .ok (.bipush 10, 2) := by decide +kernel
theorem dX11_does_30 : decode cX11_does 30 = .ok (.irem, 1) := by decide +kernel
theorem dX11_does_31 : decode cX11_does 31 = .ok (.iload_n 1, 1) := by decide +kernel
theorem dX11_does_32 : decode cX11_does 32 = .ok (.bipush 10, 2) := by decide +kernel
theorem dX11_does_34 : decode cX11_does 34 = .ok (.irem, 1) := by decide +kernel
theorem dX11_does_35 : decode cX11_does 35 = .ok (.invokevirtual 386, 3) := by decide +kernel
theorem dX11_does_38 : decode cX11_does 38 = .ok (.pop, 1) := by decide +kernel
theorem dX11_does_39 : decode cX11_does 39 = .ok (.goto 27, 3) := by decide +kernel
theorem dX11_does_42 : decode cX11_does 42 = .ok (.iload_n 1, 1) := by decide +kernel
theorem dX11_does_43 : decode cX11_does 43 = .ok (.sipush 2000, 3) := by decide +kernel
theorem dX11_does_46 : decode cX11_does 46 = .ok (.if_icmp .ge 15, 3) := by decide +kernel
theorem dX11_does_49 : decode cX11_does 49 = .ok (.aload_n 0, 1) := by decide +kernel
theorem dX11_does_5 : decode cX11_does 5 = .ok (.aload_n 0, 1) := by decide +kernel
theorem dX11_does_50 : decode cX11_does 50 = .ok (.iload_n 1, 1) := by decide +kernel
theorem dX11_does_51 : decode cX11_does 51 = .ok (.sipush 1000, 3) := by decide +kernel
theorem dX11_does_54 : decode cX11_does 54 = .ok (.isub, 1) := by decide +kernel
theorem dX11_does_55 : decode cX11_does 55 = .ok (.invokevirtual 393, 3) := by decide +kernel
theorem dX11_does_58 : decode cX11_does 58 = .ok (.goto 8, 3) := by decide +kernel
theorem dX11_does_6 : decode cX11_does 6 = .ok (.invokevirtual 401, 3) := by decide +kernel
theorem dX11_does_61 : decode cX11_does 61 = .ok (.aload_n 0, 1) := by decide +kernel
theorem dX11_does_62 : decode cX11_does 62 = .ok (.invokevirtual 396, 3) := by decide +kernel
theorem dX11_does_65 : decode cX11_does 65 = .ok (.pop, 1) := by decide +kernel
theorem dX11_does_66 : decode cX11_does 66 = .ok (.return_, 1) := by decide +kernel
theorem dX11_does_9 : decode cX11_does 9 = .ok (.goto 57, 3) := by decide +kernel
theorem dX11_drops_0 : decode cX11_drops 0 = .ok (.iload_n 2, 1) := by decide +kernel
theorem dX11_drops_1 : decode cX11_drops 1 = .ok (.ifCond .ne 4, 3) := by decide +kernel
theorem dX11_drops_100 : decode cX11_drops 100 = .ok (.aload_n 0, 1) := by decide +kernel
theorem dX11_drops_101 : decode cX11_drops 101 = .ok (.getfield 9, 3) := by decide +kernel
theorem dX11_drops_104 : decode cX11_drops 104 = .ok (.bipush 8, 2) := by decide +kernel
theorem dX11_drops_106 : decode cX11_drops 106 = .ok (.iload 7, 2) := by decide +kernel
theorem dX11_drops_108 : decode cX11_drops 108 = .ok (.iadd, 1) := by decide +kernel
theorem dX11_drops_109 : decode cX11_drops 109 = .ok (.iconst 2, 1) := by decide +kernel
theorem dX11_drops_11 : decode cX11_drops 11 = .ok (.istore_n 3, 1) := by decide +kernel
theorem dX11_drops_110 : decode cX11_drops 110 = .ok (.iastore, 1) := by decide +kernel
theorem dX11_drops_111 : decode cX11_drops 111 = .ok (.aload_n 0, 1) := by decide +kernel
theorem dX11_drops_112 : decode cX11_drops 112 = .ok (.getfield 9, 3) := by decide +kernel
theorem dX11_drops_115 : decode cX11_drops 115 = .ok (.bipush 24, 2) := by decide +kernel
theorem dX11_drops_117 : decode cX11_drops 117 = .ok (.iload 7, 2) := by decide +kernel
theorem dX11_drops_119 : decode cX11_drops 119 = .ok (.iadd, 1) := by decide +kernel
theorem dX11_drops_12 : decode cX11_drops 12 = .ok (.iconst 0, 1) := by decide +kernel
theorem dX11_drops_120 : decode cX11_drops 120 = .ok (.iload 5, 2) := by decide +kernel
theorem dX11_drops_122 : decode cX11_drops 122 = .ok (.iastore, 1) := by decide +kernel
theorem dX11_drops_123 : decode cX11_drops 123 = .ok (.aload_n 0, 1) := by decide +kernel
theorem dX11_drops_124 : decode cX11_drops 124 = .ok (.getfield 9, 3) := by decide +kernel
theorem dX11_drops_127 : decode cX11_drops 127 = .ok (.bipush 32, 2) := by decide +kernel
theorem dX11_drops_129 : decode cX11_drops 129 = .ok (.iload 7, 2) := by decide +kernel
theorem dX11_drops_13 : decode cX11_drops 13 = .ok (.istore 4, 2) := by decide +kernel
theorem dX11_drops_131 : decode cX11_drops 131 = .ok (.iadd, 1) := by decide +kernel
theorem dX11_drops_132 : decode cX11_drops 132 = .ok (.iconst 0, 1) := by decide +kernel
theorem dX11_drops_133 : decode cX11_drops 133 = .ok (.iastore, 1) := by decide +kernel
theorem dX11_drops_134 : decode cX11_drops 134 = .ok (.iinc 5 1, 3) := by decide +kernel
theorem dX11_drops_137 : decode cX11_drops 137 = .ok (.iload_n 3, 1) := by decide +kernel
theorem dX11_drops_138 : decode cX11_drops 138 = .ok (.iconst 1, 1) := by decide +kernel
theorem dX11_drops_139 : decode cX11_drops 139 = .ok (.iload 7, 2) := by decide +kernel
theorem dX11_drops_141 : decode cX11_drops 141 = .ok (.ishl, 1) := by decide +kernel
theorem dX11_drops_142 : decode cX11_drops 142 = .ok (.iconst (-1), 1) := by decide +kernel
theorem dX11_drops_143 : decode cX11_drops 143 = .ok (.ixor, 1) := by decide +kernel
theorem dX11_drops_144 : decode cX11_drops 144 = .ok (.iand, 1) := by decide +kernel
theorem dX11_drops_145 : decode cX11_drops 145 = .ok (.istore_n 3, 1) := by decide +kernel
theorem dX11_drops_146 : decode cX11_drops 146 = .ok (.aload_n 0, 1) := by decide +kernel
theorem dX11_drops_147 : decode cX11_drops 147 = .ok (.dup, 1) := by decide +kernel
theorem dX11_drops_148 : decode cX11_drops 148 = .ok (.getfield 339, 3) := by decide +kernel
theorem dX11_drops_15 : decode cX11_drops 15 = .ok (.aload_n 0, 1) := by decide +kernel
theorem dX11_drops_151 : decode cX11_drops 151 = .ok (.iconst 1, 1) := by decide +kernel
theorem dX11_drops_152 : decode cX11_drops 152 = .ok (.iload 7, 2) := by decide +kernel
theorem dX11_drops_154 : decode cX11_drops 154 = .ok (.ishl, 1) := by decide +kernel
theorem dX11_drops_155 : decode cX11_drops 155 = .ok (.ior, 1) := by decide +kernel
theorem dX11_drops_156 : decode cX11_drops 156 = .ok (.putfield 339, 3) := by decide +kernel
theorem dX11_drops_159 : decode cX11_drops 159 = .ok (.iinc 7 1, 3) := by decide +kernel
theorem dX11_drops_16 : decode cX11_drops 16 = .ok (.iload_n 1, 1) := by decide +kernel
theorem dX11_drops_162 : decode cX11_drops 162 = .ok (.goto (-123), 3) := by decide +kernel
theorem dX11_drops_165 : decode cX11_drops 165 = .ok (.iinc 6 1, 3) := by decide +kernel
theorem dX11_drops_168 : decode cX11_drops 168 = .ok (.goto (-143), 3) := by decide +kernel
theorem dX11_drops_17 : decode cX11_drops 17 = .ok (.invokevirtual 311, 3) := by decide +kernel
theorem dX11_drops_171 : decode cX11_drops 171 = .ok (.aload_n 0, 1) := by decide +kernel
theorem dX11_drops_172 : decode cX11_drops 172 = .ok (.dup, 1) := by decide +kernel
theorem dX11_drops_173 : decode cX11_drops 173 = .ok (.getfield 342, 3) := by decide +kernel
theorem dX11_drops_176 : decode cX11_drops 176 = .ok (.iconst 1, 1) := by decide +kernel
theorem dX11_drops_177 : decode cX11_drops 177 = .ok (.iload_n 1, 1) := by decide +kernel
theorem dX11_drops_178 : decode cX11_drops 178 = .ok (.ishl, 1) := by decide +kernel
theorem dX11_drops_179 : decode cX11_drops 179 = .ok (.ior, 1) := by decide +kernel
theorem dX11_drops_180 : decode cX11_drops 180 = .ok (.putfield 342, 3) := by decide +kernel
theorem dX11_drops_183 : decode cX11_drops 183 = .ok (.iconst 0, 1) := by decide +kernel
theorem dX11_drops_184 : decode cX11_drops 184 = .ok (.istore 6, 2) := by decide +kernel
theorem dX11_drops_186 : decode cX11_drops 186 = .ok (.iload 6, 2) := by decide +kernel
theorem dX11_drops_188 : decode cX11_drops 188 = .ok (.aload_n 0, 1) := by decide +kernel
theorem dX11_drops_189 : decode cX11_drops 189 = .ok (.getfield 9, 3) := by decide +kernel
theorem dX11_drops_192 : decode cX11_drops 192 = .ok (.iconst 4, 1) := by decide +kernel
theorem dX11_drops_193 : decode cX11_drops 193 = .ok (.iaload, 1) := by decide +kernel
theorem dX11_drops_194 : decode cX11_drops 194 = .ok (.if_icmp .ge 45, 3) := by decide +kernel
theorem dX11_drops_197 : decode cX11_drops 197 = .ok (.aload_n 0, 1) := by decide +kernel
theorem dX11_drops_198 : decode cX11_drops 198 = .ok (.getfield 9, 3) := by decide +kernel
theorem dX11_drops_20 : decode cX11_drops 20 = .ok (.istore 5, 2) := by decide +kernel
theorem dX11_drops_201 : decode cX11_drops 201 = .ok (.bipush 41, 2) := by decide +kernel
theorem dX11_drops_203 : decode cX11_drops 203 = .ok (.iload 6, 2) := by decide +kernel
theorem dX11_drops_205 : decode cX11_drops 205 = .ok (.iadd, 1) := by decide +kernel
theorem dX11_drops_206 : decode cX11_drops 206 = .ok (.dup2, 1) := by decide +kernel
theorem dX11_drops_207 : decode cX11_drops 207 = .ok (.iaload, 1) := by decide +kernel
theorem dX11_drops_208 : decode cX11_drops 208 = .ok (.aload_n 0, 1) := by decide +kernel
theorem dX11_drops_209 : decode cX11_drops 209 = .ok (.iload 6, 2) := by decide +kernel
theorem dX11_drops_211 : decode cX11_drops 211 = .ok (.aload_n 0, 1) := by decide +kernel
theorem dX11_drops_212 : decode cX11_drops 212 = .ok (.getfield 9, 3) := by decide +kernel
theorem dX11_drops_215 : decode cX11_drops 215 = .ok (.bipush 40, 2) := by decide +kernel
theorem dX11_drops_217 : decode cX11_drops 217 = .ok (.iaload, 1) := by decide +kernel
theorem dX11_drops_218 : decode cX11_drops 218 = .ok (.invokevirtual 345, 3) := by decide +kernel
theorem dX11_drops_22 : decode cX11_drops 22 = .ok (.iconst 0, 1) := by decide +kernel
theorem dX11_drops_221 : decode cX11_drops 221 = .ok (.iload_n 1, 1) := by decide +kernel
theorem dX11_drops_222 : decode cX11_drops 222 = .ok (.if_icmp .ne 8, 3) := by decide +kernel
theorem dX11_drops_225 : decode cX11_drops 225 = .ok (.iload 4, 2) := by decide +kernel
theorem dX11_drops_227 : decode cX11_drops 227 = .ok (.goto 4, 3) := by decide +kernel
theorem dX11_drops_23 : decode cX11_drops 23 = .ok (.istore 6, 2) := by decide +kernel
theorem dX11_drops_230 : decode cX11_drops 230 = .ok (.iconst 0, 1) := by decide +kernel
theorem dX11_drops_231 : decode cX11_drops 231 = .ok (.iadd, 1) := by decide +kernel
theorem dX11_drops_232 : decode cX11_drops 232 = .ok (.iastore, 1) := by decide +kernel
theorem dX11_drops_233 : decode cX11_drops 233 = .ok (.iinc 6 1, 3) := by decide +kernel
theorem dX11_drops_236 : decode cX11_drops 236 = .ok (.goto (-50), 3) := by decide +kernel
theorem dX11_drops_239 : decode cX11_drops 239 = .ok (.return_, 1) := by decide +kernel
theorem dX11_drops_25 : decode cX11_drops 25 = .ok (.iload 6, 2) := by decide +kernel
theorem dX11_drops_27 : decode cX11_drops 27 = .ok (.aload_n 0, 1) := by decide +kernel
theorem dX11_drops_28 : decode cX11_drops 28 = .ok (.getfield 9, 3) := by decide +kernel
theorem dX11_drops_31 : decode cX11_drops 31 = .ok (.iconst 2, 1) := by decide +kernel
theorem dX11_drops_32 : decode cX11_drops 32 = .ok (.iaload, 1) := by decide +kernel
theorem dX11_drops_33 : decode cX11_drops 33 = .ok (.if_icmp .ge 138, 3) := by decide +kernel
theorem dX11_drops_36 : decode cX11_drops 36 = .ok (.iconst 0, 1) := by decide +kernel
theorem dX11_drops_37 : decode cX11_drops 37 = .ok (.istore 7, 2) := by decide +kernel
theorem dX11_drops_39 : decode cX11_drops 39 = .ok (.iload 7, 2) := by decide +kernel
theorem dX11_drops_4 : decode cX11_drops 4 = .ok (.return_, 1) := by decide +kernel
theorem dX11_drops_41 : decode cX11_drops 41 = .ok (.aload_n 0, 1) := by decide +kernel
theorem dX11_drops_42 : decode cX11_drops 42 = .ok (.invokevirtual 280, 3) := by decide +kernel
theorem dX11_drops_45 : decode cX11_drops 45 = .ok (.if_icmp .ge 120, 3) := by decide +kernel
theorem dX11_drops_48 : decode cX11_drops 48 = .ok (.iload_n 3, 1) := by decide +kernel
theorem dX11_drops_49 : decode cX11_drops 49 = .ok (.iload 7, 2) := by decide +kernel
theorem dX11_drops_5 : decode cX11_drops 5 = .ok (.aload_n 0, 1) := by decide +kernel
theorem dX11_drops_51 : decode cX11_drops 51 = .ok (.invokestatic 323, 3) := by decide +kernel
theorem dX11_drops_54 : decode cX11_drops 54 = .ok (.ifCond .eq 105, 3) := by decide +kernel
theorem dX11_drops_57 : decode cX11_drops 57 = .ok (.aload_n 0, 1) := by decide +kernel
theorem dX11_drops_58 : decode cX11_drops 58 = .ok (.iload 7, 2) := by decide +kernel
theorem dX11_drops_6 : decode cX11_drops 6 = .ok (.iload_n 1, 1) := by decide +kernel
theorem dX11_drops_60 : decode cX11_drops 60 = .ok (.iconst 1, 1) := by decide +kernel
theorem dX11_drops_61 : decode cX11_drops 61 = .ok (.invokevirtual 283, 3) := by decide +kernel
theorem dX11_drops_64 : decode cX11_drops 64 = .ok (.ifCond .eq 95, 3) := by decide +kernel
theorem dX11_drops_67 : decode cX11_drops 67 = .ok (.aload_n 0, 1) := by decide +kernel
theorem dX11_drops_68 : decode cX11_drops 68 = .ok (.getfield 9, 3) := by decide +kernel
theorem dX11_drops_7 : decode cX11_drops 7 = .ok (.iload_n 2, 1) := by decide +kernel
theorem dX11_drops_71 : decode cX11_drops 71 = .ok (.bipush 24, 2) := by decide +kernel
theorem dX11_drops_73 : decode cX11_drops 73 = .ok (.iload 7, 2) := by decide +kernel
theorem dX11_drops_75 : decode cX11_drops 75 = .ok (.iadd, 1) := by decide +kernel
theorem dX11_drops_76 : decode cX11_drops 76 = .ok (.iaload, 1) := by decide +kernel
theorem dX11_drops_77 : decode cX11_drops 77 = .ok (.iload 6, 2) := by decide +kernel
theorem dX11_drops_79 : decode cX11_drops 79 = .ok (.if_icmp .eq 6, 3) := by decide +kernel
theorem dX11_drops_8 : decode cX11_drops 8 = .ok (.invokevirtual 336, 3) := by decide +kernel
theorem dX11_drops_82 : decode cX11_drops 82 = .ok (.goto 77, 3) := by decide +kernel
theorem dX11_drops_85 : decode cX11_drops 85 = .ok (.iload 4, 2) := by decide +kernel
theorem dX11_drops_87 : decode cX11_drops 87 = .ok (.aload_n 0, 1) := by decide +kernel
theorem dX11_drops_88 : decode cX11_drops 88 = .ok (.getfield 9, 3) := by decide +kernel
theorem dX11_drops_91 : decode cX11_drops 91 = .ok (.bipush 45, 2) := by decide +kernel
theorem dX11_drops_93 : decode cX11_drops 93 = .ok (.iload 7, 2) := by decide +kernel
theorem dX11_drops_95 : decode cX11_drops 95 = .ok (.iadd, 1) := by decide +kernel
theorem dX11_drops_96 : decode cX11_drops 96 = .ok (.iaload, 1) := by decide +kernel
theorem dX11_drops_97 : decode cX11_drops 97 = .ok (.iadd, 1) := by decide +kernel
theorem dX11_drops_98 : decode cX11_drops 98 = .ok (.istore 4, 2) := by decide +kernel
theorem dX11_fallAll_0 : decode cX11_fallAll 0 = .ok (.iconst 0, 1) := by decide +kernel
theorem dX11_fallAll_1 : decode cX11_fallAll 1 = .ok (.istore_n 2, 1) := by decide +kernel
theorem dX11_fallAll_12 : decode cX11_fallAll 12 = .ok (.iconst 0, 1) := by decide +kernel
theorem dX11_fallAll_13 : decode cX11_fallAll 13 = .ok (.istore_n 3, 1) := by decide +kernel
theorem dX11_fallAll_14 : decode cX11_fallAll 14 = .ok (.iconst 0, 1) := by decide +kernel
theorem dX11_fallAll_15 : decode cX11_fallAll 15 = .ok (.istore 4, 2) := by decide +kernel
theorem dX11_fallAll_17 : decode cX11_fallAll 17 = .ok (.iload 4, 2) := by decide +kernel
theorem dX11_fallAll_19 : decode cX11_fallAll 19 = .ok (.aload_n 0, 1) := by decide +kernel
theorem dX11_fallAll_2 : decode cX11_fallAll 2 = .ok (.iload_n 2, 1) := by decide +kernel
theorem dX11_fallAll_20 : decode cX11_fallAll 20 = .ok (.invokevirtual 280, 3) := by decide +kernel
theorem dX11_fallAll_23 : decode cX11_fallAll 23 = .ok (.if_icmp .ge 54, 3) := by decide +kernel
theorem dX11_fallAll_26 : decode cX11_fallAll 26 = .ok (.iload_n 3, 1) := by decide +kernel
theorem dX11_fallAll_27 : decode cX11_fallAll 27 = .ok (.aload_n 0, 1) := by decide +kernel
theorem dX11_fallAll_28 : decode cX11_fallAll 28 = .ok (.iload 4, 2) := by decide +kernel
theorem dX11_fallAll_3 : decode cX11_fallAll 3 = .ok (.aload_n 0, 1) := by decide +kernel
theorem dX11_fallAll_30 : decode cX11_fallAll 30 = .ok (.iload_n 2, 1) := by decide +kernel
theorem dX11_fallAll_31 : decode cX11_fallAll 31 = .ok (.invokevirtual 320, 3) := by decide +kernel
theorem dX11_fallAll_34 : decode cX11_fallAll 34 = .ok (.ifCond .eq 34, 3) := by decide +kernel
theorem dX11_fallAll_37 : decode cX11_fallAll 37 = .ok (.iload_n 1, 1) := by decide +kernel
theorem dX11_fallAll_38 : decode cX11_fallAll 38 = .ok (.ifCond .ne 23, 3) := by decide +kernel
theorem dX11_fallAll_4 : decode cX11_fallAll 4 = .ok (.getfield 9, 3) := by decide +kernel
theorem dX11_fallAll_41 : decode cX11_fallAll 41 = .ok (.aload_n 0, 1) := by decide +kernel
theorem dX11_fallAll_42 : decode cX11_fallAll 42 = .ok (.getfield 9, 3) := by decide +kernel
theorem dX11_fallAll_45 : decode cX11_fallAll 45 = .ok (.bipush 32, 2) := by decide +kernel
theorem dX11_fallAll_47 : decode cX11_fallAll 47 = .ok (.iload 4, 2) := by decide +kernel
theorem dX11_fallAll_49 : decode cX11_fallAll 49 = .ok (.iadd, 1) := by decide +kernel
theorem dX11_fallAll_50 : decode cX11_fallAll 50 = .ok (.iaload, 1) := by decide +kernel
theorem dX11_fallAll_51 : decode cX11_fallAll 51 = .ok (.aload_n 0, 1) := by decide +kernel
theorem dX11_fallAll_52 : decode cX11_fallAll 52 = .ok (.getfield 9, 3) := by decide +kernel
theorem dX11_fallAll_55 : decode cX11_fallAll 55 = .ok (.bipush 40, 2) := by decide +kernel
theorem dX11_fallAll_57 : decode cX11_fallAll 57 = .ok (.iaload, 1) := by decide +kernel
theorem dX11_fallAll_58 : decode cX11_fallAll 58 = .ok (.if_icmp .gt 10, 3) := by decide +kernel
theorem dX11_fallAll_61 : decode cX11_fallAll 61 = .ok (.iconst 1, 1) := by decide +kernel
theorem dX11_fallAll_62 : decode cX11_fallAll 62 = .ok (.iload 4, 2) := by decide +kernel
theorem dX11_fallAll_64 : decode cX11_fallAll 64 = .ok (.ishl, 1) := by decide +kernel
theorem dX11_fallAll_65 : decode cX11_fallAll 65 = .ok (.goto 4, 3) := by decide +kernel
theorem dX11_fallAll_68 : decode cX11_fallAll 68 = .ok (.iconst 0, 1) := by decide +kernel
theorem dX11_fallAll_69 : decode cX11_fallAll 69 = .ok (.ior, 1) := by decide +kernel
theorem dX11_fallAll_7 : decode cX11_fallAll 7 = .ok (.iconst 1, 1) := by decide +kernel
theorem dX11_fallAll_70 : decode cX11_fallAll 70 = .ok (.istore_n 3, 1) := by decide +kernel
theorem dX11_fallAll_71 : decode cX11_fallAll 71 = .ok (.iinc 4 1, 3) := by decide +kernel
theorem dX11_fallAll_74 : decode cX11_fallAll 74 = .ok (.goto (-57), 3) := by decide +kernel
theorem dX11_fallAll_77 : decode cX11_fallAll 77 = .ok (.aload_n 0, 1) := by decide +kernel
theorem dX11_fallAll_78 : decode cX11_fallAll 78 = .ok (.iload_n 2, 1) := by decide +kernel
theorem dX11_fallAll_79 : decode cX11_fallAll 79 = .ok (.iload_n 3, 1) := by decide +kernel
theorem dX11_fallAll_8 : decode cX11_fallAll 8 = .ok (.iaload, 1) := by decide +kernel
theorem dX11_fallAll_80 : decode cX11_fallAll 80 = .ok (.invokevirtual 348, 3) := by decide +kernel
theorem dX11_fallAll_83 : decode cX11_fallAll 83 = .ok (.iinc 2 1, 3) := by decide +kernel
theorem dX11_fallAll_86 : decode cX11_fallAll 86 = .ok (.goto (-84), 3) := by decide +kernel
theorem dX11_fallAll_89 : decode cX11_fallAll 89 = .ok (.return_, 1) := by decide +kernel
theorem dX11_fallAll_9 : decode cX11_fallAll 9 = .ok (.if_icmp .ge 80, 3) := by decide +kernel
theorem dX11_fallingWith_0 : decode cX11_fallingWith 0 = .ok (.iload_n 2, 1) := by decide +kernel
theorem dX11_fallingWith_1 : decode cX11_fallingWith 1 = .ok (.istore_n 3, 1) := by decide +kernel
theorem dX11_fallingWith_11 : decode cX11_fallingWith 11 = .ok (.iload_n 3, 1) := by decide +kernel
theorem dX11_fallingWith_12 : decode cX11_fallingWith 12 = .ok (.istore 4, 2) := by decide +kernel
theorem dX11_fallingWith_14 : decode cX11_fallingWith 14 = .ok (.iconst 0, 1) := by decide +kernel
theorem dX11_fallingWith_15 : decode cX11_fallingWith 15 = .ok (.istore 5, 2) := by decide +kernel
theorem dX11_fallingWith_17 : decode cX11_fallingWith 17 = .ok (.iload 5, 2) := by decide +kernel
theorem dX11_fallingWith_19 : decode cX11_fallingWith 19 = .ok (.aload_n 0, 1) := by decide +kernel
theorem dX11_fallingWith_2 : decode cX11_fallingWith 2 = .ok (.iconst (-1), 1) := by decide +kernel
theorem dX11_fallingWith_20 : decode cX11_fallingWith 20 = .ok (.invokevirtual 280, 3) := by decide +kernel
theorem dX11_fallingWith_23 : decode cX11_fallingWith 23 = .ok (.if_icmp .ge 47, 3) := by decide +kernel
theorem dX11_fallingWith_26 : decode cX11_fallingWith 26 = .ok (.aload_n 0, 1) := by decide +kernel
theorem dX11_fallingWith_27 : decode cX11_fallingWith 27 = .ok (.iload 5, 2) := by decide +kernel
theorem dX11_fallingWith_29 : decode cX11_fallingWith 29 = .ok (.iload_n 1, 1) := by decide +kernel
theorem dX11_fallingWith_3 : decode cX11_fallingWith 3 = .ok (.istore 4, 2) := by decide +kernel
theorem dX11_fallingWith_30 : decode cX11_fallingWith 30 = .ok (.invokevirtual 320, 3) := by decide +kernel
theorem dX11_fallingWith_33 : decode cX11_fallingWith 33 = .ok (.ifCond .eq 31, 3) := by decide +kernel
theorem dX11_fallingWith_36 : decode cX11_fallingWith 36 = .ok (.iload_n 3, 1) := by decide +kernel
theorem dX11_fallingWith_37 : decode cX11_fallingWith 37 = .ok (.iload 5, 2) := by decide +kernel
theorem dX11_fallingWith_39 : decode cX11_fallingWith 39 = .ok (.invokestatic 323, 3) := by decide +kernel
theorem dX11_fallingWith_42 : decode cX11_fallingWith 42 = .ok (.ifCond .ne 22, 3) := by decide +kernel
theorem dX11_fallingWith_45 : decode cX11_fallingWith 45 = .ok (.aload_n 0, 1) := by decide +kernel
theorem dX11_fallingWith_46 : decode cX11_fallingWith 46 = .ok (.iload 5, 2) := by decide +kernel
theorem dX11_fallingWith_48 : decode cX11_fallingWith 48 = .ok (.iload_n 1, 1) := by decide +kernel
theorem dX11_fallingWith_49 : decode cX11_fallingWith 49 = .ok (.iload 4, 2) := by decide +kernel
theorem dX11_fallingWith_5 : decode cX11_fallingWith 5 = .ok (.iload 4, 2) := by decide +kernel
theorem dX11_fallingWith_51 : decode cX11_fallingWith 51 = .ok (.invokevirtual 326, 3) := by decide +kernel
theorem dX11_fallingWith_54 : decode cX11_fallingWith 54 = .ok (.ifCond .eq 10, 3) := by decide +kernel
theorem dX11_fallingWith_57 : decode cX11_fallingWith 57 = .ok (.iload_n 3, 1) := by decide +kernel
theorem dX11_fallingWith_58 : decode cX11_fallingWith 58 = .ok (.iconst 1, 1) := by decide +kernel
theorem dX11_fallingWith_59 : decode cX11_fallingWith 59 = .ok (.iload 5, 2) := by decide +kernel
theorem dX11_fallingWith_61 : decode cX11_fallingWith 61 = .ok (.ishl, 1) := by decide +kernel
theorem dX11_fallingWith_62 : decode cX11_fallingWith 62 = .ok (.ior, 1) := by decide +kernel
theorem dX11_fallingWith_63 : decode cX11_fallingWith 63 = .ok (.istore_n 3, 1) := by decide +kernel
theorem dX11_fallingWith_64 : decode cX11_fallingWith 64 = .ok (.iinc 5 1, 3) := by decide +kernel
theorem dX11_fallingWith_67 : decode cX11_fallingWith 67 = .ok (.goto (-50), 3) := by decide +kernel
theorem dX11_fallingWith_7 : decode cX11_fallingWith 7 = .ok (.iload_n 3, 1) := by decide +kernel
theorem dX11_fallingWith_70 : decode cX11_fallingWith 70 = .ok (.goto (-65), 3) := by decide +kernel
theorem dX11_fallingWith_73 : decode cX11_fallingWith 73 = .ok (.iload_n 3, 1) := by decide +kernel
theorem dX11_fallingWith_74 : decode cX11_fallingWith 74 = .ok (.ireturn, 1) := by decide +kernel
theorem dX11_fallingWith_8 : decode cX11_fallingWith 8 = .ok (.if_icmp .eq 65, 3) := by decide +kernel
theorem dX11_frees_0 : decode cX11_frees 0 = .ok (.aload_n 0, 1) := by decide +kernel
theorem dX11_frees_1 : decode cX11_frees 1 = .ok (.aload_n 0, 1) := by decide +kernel
theorem dX11_frees_10 : decode cX11_frees 10 = .ok (.iconst 1, 1) := by decide +kernel
theorem dX11_frees_11 : decode cX11_frees 11 = .ok (.goto 17, 3) := by decide +kernel
theorem dX11_frees_14 : decode cX11_frees 14 = .ok (.aload_n 0, 1) := by decide +kernel
theorem dX11_frees_15 : decode cX11_frees 15 = .ok (.iload_n 1, 1) := by decide +kernel
theorem dX11_frees_16 : decode cX11_frees 16 = .ok (.iconst 1, 1) := by decide +kernel
theorem dX11_frees_17 : decode cX11_frees 17 = .ok (.invokevirtual 283, 3) := by decide +kernel
theorem dX11_frees_2 : decode cX11_frees 2 = .ok (.iload_n 1, 1) := by decide +kernel
theorem dX11_frees_20 : decode cX11_frees 20 = .ok (.ifCond .eq 7, 3) := by decide +kernel
theorem dX11_frees_23 : decode cX11_frees 23 = .ok (.iconst 0, 1) := by decide +kernel
theorem dX11_frees_24 : decode cX11_frees 24 = .ok (.goto 4, 3) := by decide +kernel
theorem dX11_frees_27 : decode cX11_frees 27 = .ok (.iconst 2, 1) := by decide +kernel
theorem dX11_frees_28 : decode cX11_frees 28 = .ok (.putfield 70, 3) := by decide +kernel
theorem dX11_frees_3 : decode cX11_frees 3 = .ok (.i2l, 1) := by decide +kernel
theorem dX11_frees_31 : decode cX11_frees 31 = .ok (.aload_n 0, 1) := by decide +kernel
theorem dX11_frees_32 : decode cX11_frees 32 = .ok (.getfield 70, 3) := by decide +kernel
theorem dX11_frees_35 : decode cX11_frees 35 = .ok (.ifCond .le 7, 3) := by decide +kernel
theorem dX11_frees_38 : decode cX11_frees 38 = .ok (.iconst 0, 1) := by decide +kernel
theorem dX11_frees_39 : decode cX11_frees 39 = .ok (.goto 25, 3) := by decide +kernel
theorem dX11_frees_4 : decode cX11_frees 4 = .ok (.invokevirtual 363, 3) := by decide +kernel
theorem dX11_frees_42 : decode cX11_frees 42 = .ok (.aload_n 0, 1) := by decide +kernel
theorem dX11_frees_43 : decode cX11_frees 43 = .ok (.aload_n 0, 1) := by decide +kernel
theorem dX11_frees_44 : decode cX11_frees 44 = .ok (.getfield 9, 3) := by decide +kernel
theorem dX11_frees_47 : decode cX11_frees 47 = .ok (.bipush 16, 2) := by decide +kernel
theorem dX11_frees_49 : decode cX11_frees 49 = .ok (.iload_n 1, 1) := by decide +kernel
theorem dX11_frees_50 : decode cX11_frees 50 = .ok (.iadd, 1) := by decide +kernel
theorem dX11_frees_51 : decode cX11_frees 51 = .ok (.iaload, 1) := by decide +kernel
theorem dX11_frees_52 : decode cX11_frees 52 = .ok (.iconst 1, 1) := by decide +kernel
theorem dX11_frees_53 : decode cX11_frees 53 = .ok (.iload_n 1, 1) := by decide +kernel
theorem dX11_frees_54 : decode cX11_frees 54 = .ok (.ishl, 1) := by decide +kernel
theorem dX11_frees_55 : decode cX11_frees 55 = .ok (.invokevirtual 336, 3) := by decide +kernel
theorem dX11_frees_58 : decode cX11_frees 58 = .ok (.iconst 1, 1) := by decide +kernel
theorem dX11_frees_59 : decode cX11_frees 59 = .ok (.iload_n 1, 1) := by decide +kernel
theorem dX11_frees_60 : decode cX11_frees 60 = .ok (.ishl, 1) := by decide +kernel
theorem dX11_frees_61 : decode cX11_frees 61 = .ok (.iconst (-1), 1) := by decide +kernel
theorem dX11_frees_62 : decode cX11_frees 62 = .ok (.ixor, 1) := by decide +kernel
theorem dX11_frees_63 : decode cX11_frees 63 = .ok (.iand, 1) := by decide +kernel
theorem dX11_frees_64 : decode cX11_frees 64 = .ok (.ireturn, 1) := by decide +kernel
theorem dX11_frees_7 : decode cX11_frees 7 = .ok (.ifCond .ne 7, 3) := by decide +kernel
theorem dX11_goesTo_0 : decode cX11_goesTo 0 = .ok (.aload_n 0, 1) := by decide +kernel
theorem dX11_goesTo_1 : decode cX11_goesTo 1 = .ok (.getfield 9, 3) := by decide +kernel
theorem dX11_goesTo_10 : decode cX11_goesTo 10 = .ok (.putfield 339, 3) := by decide +kernel
theorem dX11_goesTo_13 : decode cX11_goesTo 13 = .ok (.aload_n 0, 1) := by decide +kernel
theorem dX11_goesTo_14 : decode cX11_goesTo 14 = .ok (.iconst 0, 1) := by decide +kernel
theorem dX11_goesTo_15 : decode cX11_goesTo 15 = .ok (.putfield 342, 3) := by decide +kernel
theorem dX11_goesTo_18 : decode cX11_goesTo 18 = .ok (.aload_n 0, 1) := by decide +kernel
theorem dX11_goesTo_19 : decode cX11_goesTo 19 = .ok (.iconst 0, 1) := by decide +kernel
theorem dX11_goesTo_20 : decode cX11_goesTo 20 = .ok (.invokevirtual 351, 3) := by decide +kernel
theorem dX11_goesTo_23 : decode cX11_goesTo 23 = .ok (.return_, 1) := by decide +kernel
theorem dX11_goesTo_4 : decode cX11_goesTo 4 = .ok (.bipush 40, 2) := by decide +kernel
theorem dX11_goesTo_6 : decode cX11_goesTo 6 = .ok (.iload_n 1, 1) := by decide +kernel
theorem dX11_goesTo_7 : decode cX11_goesTo 7 = .ok (.iastore, 1) := by decide +kernel
theorem dX11_goesTo_8 : decode cX11_goesTo 8 = .ok (.aload_n 0, 1) := by decide +kernel
theorem dX11_goesTo_9 : decode cX11_goesTo 9 = .ok (.iconst 0, 1) := by decide +kernel
theorem dX11_hour_0 : decode cX11_hour 0 = .ok (.aload_n 0, 1) := by decide +kernel
theorem dX11_hour_1 : decode cX11_hour 1 = .ok (.aload_n 0, 1) := by decide +kernel
theorem dX11_hour_10 : decode cX11_hour 10 = .ok (.invokevirtual 355, 3) := by decide +kernel
theorem dX11_hour_13 : decode cX11_hour 13 = .ok (.return_, 1) := by decide +kernel
theorem dX11_hour_2 : decode cX11_hour 2 = .ok (.getfield 9, 3) := by decide +kernel
theorem dX11_hour_5 : decode cX11_hour 5 = .ok (.bipush 40, 2) := by decide +kernel
theorem dX11_hour_7 : decode cX11_hour 7 = .ok (.iaload, 1) := by decide +kernel
theorem dX11_hour_8 : decode cX11_hour 8 = .ok (.iconst 1, 1) := by decide +kernel
theorem dX11_hour_9 : decode cX11_hour 9 = .ok (.iadd, 1) := by decide +kernel
theorem dX11_hours_0 : decode cX11_hours 0 = .ok (.aload_n 0, 1) := by decide +kernel
theorem dX11_hours_1 : decode cX11_hours 1 = .ok (.iconst 0, 1) := by decide +kernel
theorem dX11_hours_11 : decode cX11_hours 11 = .ok (.invokestatic 131, 3) := by decide +kernel
theorem dX11_hours_14 : decode cX11_hours 14 = .ok (.ifCond .ne 9, 3) := by decide +kernel
theorem dX11_hours_17 : decode cX11_hours 17 = .ok (.aload_n 0, 1) := by decide +kernel
theorem dX11_hours_18 : decode cX11_hours 18 = .ok (.iconst 1, 1) := by decide +kernel
theorem dX11_hours_19 : decode cX11_hours 19 = .ok (.invokevirtual 269, 3) := by decide +kernel
theorem dX11_hours_2 : decode cX11_hours 2 = .ok (.putfield 70, 3) := by decide +kernel
theorem dX11_hours_22 : decode cX11_hours 22 = .ok (.ireturn, 1) := by decide +kernel
theorem dX11_hours_23 : decode cX11_hours 23 = .ok (.aload_n 0, 1) := by decide +kernel
theorem dX11_hours_24 : decode cX11_hours 24 = .ok (.invokevirtual 383, 3) := by decide +kernel
theorem dX11_hours_27 : decode cX11_hours 27 = .ok (.iconst 0, 1) := by decide +kernel
theorem dX11_hours_28 : decode cX11_hours 28 = .ok (.istore_n 2, 1) := by decide +kernel
theorem dX11_hours_29 : decode cX11_hours 29 = .ok (.iconst 0, 1) := by decide +kernel
theorem dX11_hours_30 : decode cX11_hours 30 = .ok (.istore_n 3, 1) := by decide +kernel
theorem dX11_hours_31 : decode cX11_hours 31 = .ok (.iload_n 3, 1) := by decide +kernel
theorem dX11_hours_32 : decode cX11_hours 32 = .ok (.iload_n 1, 1) := by decide +kernel
theorem dX11_hours_33 : decode cX11_hours 33 = .ok (.if_icmp .ge 23, 3) := by decide +kernel
theorem dX11_hours_36 : decode cX11_hours 36 = .ok (.aload_n 0, 1) := by decide +kernel
theorem dX11_hours_37 : decode cX11_hours 37 = .ok (.invokevirtual 401, 3) := by decide +kernel
theorem dX11_hours_40 : decode cX11_hours 40 = .ok (.iload_n 2, 1) := by decide +kernel
theorem dX11_hours_41 : decode cX11_hours 41 = .ok (.aload_n 0, 1) := by decide +kernel
theorem dX11_hours_42 : decode cX11_hours 42 = .ok (.getfield 339, 3) := by decide +kernel
theorem dX11_hours_45 : decode cX11_hours 45 = .ok (.invokestatic 330, 3) := by decide +kernel
theorem dX11_hours_48 : decode cX11_hours 48 = .ok (.iadd, 1) := by decide +kernel
theorem dX11_hours_49 : decode cX11_hours 49 = .ok (.istore_n 2, 1) := by decide +kernel
theorem dX11_hours_5 : decode cX11_hours 5 = .ok (.iload_n 1, 1) := by decide +kernel
theorem dX11_hours_50 : decode cX11_hours 50 = .ok (.iinc 3 1, 3) := by decide +kernel
theorem dX11_hours_53 : decode cX11_hours 53 = .ok (.goto (-22), 3) := by decide +kernel
theorem dX11_hours_56 : decode cX11_hours 56 = .ok (.iload_n 2, 1) := by decide +kernel
theorem dX11_hours_57 : decode cX11_hours 57 = .ok (.ireturn, 1) := by decide +kernel
theorem dX11_hours_6 : decode cX11_hours 6 = .ok (.i2l, 1) := by decide +kernel
theorem dX11_hours_7 : decode cX11_hours 7 = .ok (.lconst 1, 1) := by decide +kernel
theorem dX11_hours_8 : decode cX11_hours 8 = .ok (.ldc2_w 399, 3) := by decide +kernel
theorem dX11_letGo_0 : decode cX11_letGo 0 = .ok (.aload_n 0, 1) := by decide +kernel
theorem dX11_letGo_1 : decode cX11_letGo 1 = .ok (.iconst 0, 1) := by decide +kernel
theorem dX11_letGo_10 : decode cX11_letGo 10 = .ok (.iload_n 3, 1) := by decide +kernel
theorem dX11_letGo_11 : decode cX11_letGo 11 = .ok (.i2l, 1) := by decide +kernel
theorem dX11_letGo_12 : decode cX11_letGo 12 = .ok (.invokevirtual 379, 3) := by decide +kernel
theorem dX11_letGo_15 : decode cX11_letGo 15 = .ok (.istore 4, 2) := by decide +kernel
theorem dX11_letGo_17 : decode cX11_letGo 17 = .ok (.iload 4, 2) := by decide +kernel
theorem dX11_letGo_19 : decode cX11_letGo 19 = .ok (.ifCond .eq 7, 3) := by decide +kernel
theorem dX11_letGo_2 : decode cX11_letGo 2 = .ok (.putfield 70, 3) := by decide +kernel
theorem dX11_letGo_22 : decode cX11_letGo 22 = .ok (.iload 4, 2) := by decide +kernel
theorem dX11_letGo_24 : decode cX11_letGo 24 = .ok (.ineg, 1) := by decide +kernel
theorem dX11_letGo_25 : decode cX11_letGo 25 = .ok (.ireturn, 1) := by decide +kernel
theorem dX11_letGo_26 : decode cX11_letGo 26 = .ok (.aload_n 0, 1) := by decide +kernel
theorem dX11_letGo_27 : decode cX11_letGo 27 = .ok (.invokevirtual 383, 3) := by decide +kernel
theorem dX11_letGo_30 : decode cX11_letGo 30 = .ok (.aload_n 0, 1) := by decide +kernel
theorem dX11_letGo_31 : decode cX11_letGo 31 = .ok (.iload_n 1, 1) := by decide +kernel
theorem dX11_letGo_32 : decode cX11_letGo 32 = .ok (.iload_n 2, 1) := by decide +kernel
theorem dX11_letGo_33 : decode cX11_letGo 33 = .ok (.iload_n 3, 1) := by decide +kernel
theorem dX11_letGo_34 : decode cX11_letGo 34 = .ok (.invokevirtual 386, 3) := by decide +kernel
theorem dX11_letGo_37 : decode cX11_letGo 37 = .ok (.ireturn, 1) := by decide +kernel
theorem dX11_letGo_5 : decode cX11_letGo 5 = .ok (.aload_n 0, 1) := by decide +kernel
theorem dX11_letGo_6 : decode cX11_letGo 6 = .ok (.iload_n 1, 1) := by decide +kernel
theorem dX11_letGo_7 : decode cX11_letGo 7 = .ok (.i2l, 1) := by decide +kernel
theorem dX11_letGo_8 : decode cX11_letGo 8 = .ok (.iload_n 2, 1) := by decide +kernel
theorem dX11_letGo_9 : decode cX11_letGo 9 = .ok (.i2l, 1) := by decide +kernel
theorem dX11_lets_0 : decode cX11_lets 0 = .ok (.aload_n 0, 1) := by decide +kernel
theorem dX11_lets_1 : decode cX11_lets 1 = .ok (.aload_n 0, 1) := by decide +kernel
theorem dX11_lets_100 : decode cX11_lets 100 = .ok (.iload 4, 2) := by decide +kernel
theorem dX11_lets_102 : decode cX11_lets 102 = .ok (.ifCond .ne 11, 3) := by decide +kernel
theorem dX11_lets_105 : decode cX11_lets 105 = .ok (.aload_n 0, 1) := by decide +kernel
theorem dX11_lets_106 : decode cX11_lets 106 = .ok (.iload_n 2, 1) := by decide +kernel
theorem dX11_lets_107 : decode cX11_lets 107 = .ok (.iconst 1, 1) := by decide +kernel
theorem dX11_lets_108 : decode cX11_lets 108 = .ok (.iload_n 1, 1) := by decide +kernel
theorem dX11_lets_109 : decode cX11_lets 109 = .ok (.ishl, 1) := by decide +kernel
theorem dX11_lets_110 : decode cX11_lets 110 = .ok (.invokevirtual 348, 3) := by decide +kernel
theorem dX11_lets_113 : decode cX11_lets 113 = .ok (.iload 4, 2) := by decide +kernel
theorem dX11_lets_115 : decode cX11_lets 115 = .ok (.ireturn, 1) := by decide +kernel
theorem dX11_lets_12 : decode cX11_lets 12 = .ok (.bipush 32, 2) := by decide +kernel
theorem dX11_lets_14 : decode cX11_lets 14 = .ok (.iload_n 1, 1) := by decide +kernel
theorem dX11_lets_15 : decode cX11_lets 15 = .ok (.iadd, 1) := by decide +kernel
theorem dX11_lets_16 : decode cX11_lets 16 = .ok (.iaload, 1) := by decide +kernel
theorem dX11_lets_17 : decode cX11_lets 17 = .ok (.isub, 1) := by decide +kernel
theorem dX11_lets_18 : decode cX11_lets 18 = .ok (.aload_n 0, 1) := by decide +kernel
theorem dX11_lets_19 : decode cX11_lets 19 = .ok (.getfield 9, 3) := by decide +kernel
theorem dX11_lets_2 : decode cX11_lets 2 = .ok (.getfield 9, 3) := by decide +kernel
theorem dX11_lets_22 : decode cX11_lets 22 = .ok (.bipush 45, 2) := by decide +kernel
theorem dX11_lets_24 : decode cX11_lets 24 = .ok (.iload_n 1, 1) := by decide +kernel
theorem dX11_lets_25 : decode cX11_lets 25 = .ok (.iadd, 1) := by decide +kernel
theorem dX11_lets_26 : decode cX11_lets 26 = .ok (.iaload, 1) := by decide +kernel
theorem dX11_lets_27 : decode cX11_lets 27 = .ok (.iload_n 2, 1) := by decide +kernel
theorem dX11_lets_28 : decode cX11_lets 28 = .ok (.iload_n 3, 1) := by decide +kernel
theorem dX11_lets_29 : decode cX11_lets 29 = .ok (.aload_n 0, 1) := by decide +kernel
theorem dX11_lets_30 : decode cX11_lets 30 = .ok (.getfield 9, 3) := by decide +kernel
theorem dX11_lets_33 : decode cX11_lets 33 = .ok (.bipush 40, 2) := by decide +kernel
theorem dX11_lets_35 : decode cX11_lets 35 = .ok (.iaload, 1) := by decide +kernel
theorem dX11_lets_36 : decode cX11_lets 36 = .ok (.invokevirtual 359, 3) := by decide +kernel
theorem dX11_lets_39 : decode cX11_lets 39 = .ok (.istore 4, 2) := by decide +kernel
theorem dX11_lets_41 : decode cX11_lets 41 = .ok (.aload_n 0, 1) := by decide +kernel
theorem dX11_lets_42 : decode cX11_lets 42 = .ok (.getfield 9, 3) := by decide +kernel
theorem dX11_lets_45 : decode cX11_lets 45 = .ok (.bipush 8, 2) := by decide +kernel
theorem dX11_lets_47 : decode cX11_lets 47 = .ok (.iload_n 1, 1) := by decide +kernel
theorem dX11_lets_48 : decode cX11_lets 48 = .ok (.iadd, 1) := by decide +kernel
theorem dX11_lets_49 : decode cX11_lets 49 = .ok (.iconst 1, 1) := by decide +kernel
theorem dX11_lets_5 : decode cX11_lets 5 = .ok (.bipush 40, 2) := by decide +kernel
theorem dX11_lets_50 : decode cX11_lets 50 = .ok (.iastore, 1) := by decide +kernel
theorem dX11_lets_51 : decode cX11_lets 51 = .ok (.aload_n 0, 1) := by decide +kernel
theorem dX11_lets_52 : decode cX11_lets 52 = .ok (.getfield 9, 3) := by decide +kernel
theorem dX11_lets_55 : decode cX11_lets 55 = .ok (.bipush 16, 2) := by decide +kernel
theorem dX11_lets_57 : decode cX11_lets 57 = .ok (.iload_n 1, 1) := by decide +kernel
theorem dX11_lets_58 : decode cX11_lets 58 = .ok (.iadd, 1) := by decide +kernel
theorem dX11_lets_59 : decode cX11_lets 59 = .ok (.iload_n 2, 1) := by decide +kernel
theorem dX11_lets_60 : decode cX11_lets 60 = .ok (.iastore, 1) := by decide +kernel
theorem dX11_lets_61 : decode cX11_lets 61 = .ok (.aload_n 0, 1) := by decide +kernel
theorem dX11_lets_62 : decode cX11_lets 62 = .ok (.getfield 9, 3) := by decide +kernel
theorem dX11_lets_65 : decode cX11_lets 65 = .ok (.bipush 24, 2) := by decide +kernel
theorem dX11_lets_67 : decode cX11_lets 67 = .ok (.iload_n 1, 1) := by decide +kernel
theorem dX11_lets_68 : decode cX11_lets 68 = .ok (.iadd, 1) := by decide +kernel
theorem dX11_lets_69 : decode cX11_lets 69 = .ok (.iload_n 3, 1) := by decide +kernel
theorem dX11_lets_7 : decode cX11_lets 7 = .ok (.iaload, 1) := by decide +kernel
theorem dX11_lets_70 : decode cX11_lets 70 = .ok (.iastore, 1) := by decide +kernel
theorem dX11_lets_71 : decode cX11_lets 71 = .ok (.aload_n 0, 1) := by decide +kernel
theorem dX11_lets_72 : decode cX11_lets 72 = .ok (.getfield 9, 3) := by decide +kernel
theorem dX11_lets_75 : decode cX11_lets 75 = .ok (.bipush 32, 2) := by decide +kernel
theorem dX11_lets_77 : decode cX11_lets 77 = .ok (.iload_n 1, 1) := by decide +kernel
theorem dX11_lets_78 : decode cX11_lets 78 = .ok (.iadd, 1) := by decide +kernel
theorem dX11_lets_79 : decode cX11_lets 79 = .ok (.aload_n 0, 1) := by decide +kernel
theorem dX11_lets_8 : decode cX11_lets 8 = .ok (.aload_n 0, 1) := by decide +kernel
theorem dX11_lets_80 : decode cX11_lets 80 = .ok (.getfield 9, 3) := by decide +kernel
theorem dX11_lets_83 : decode cX11_lets 83 = .ok (.bipush 40, 2) := by decide +kernel
theorem dX11_lets_85 : decode cX11_lets 85 = .ok (.iaload, 1) := by decide +kernel
theorem dX11_lets_86 : decode cX11_lets 86 = .ok (.iload 4, 2) := by decide +kernel
theorem dX11_lets_88 : decode cX11_lets 88 = .ok (.iadd, 1) := by decide +kernel
theorem dX11_lets_89 : decode cX11_lets 89 = .ok (.iastore, 1) := by decide +kernel
theorem dX11_lets_9 : decode cX11_lets 9 = .ok (.getfield 9, 3) := by decide +kernel
theorem dX11_lets_90 : decode cX11_lets 90 = .ok (.aload_n 0, 1) := by decide +kernel
theorem dX11_lets_91 : decode cX11_lets 91 = .ok (.iconst 0, 1) := by decide +kernel
theorem dX11_lets_92 : decode cX11_lets 92 = .ok (.putfield 339, 3) := by decide +kernel
theorem dX11_lets_95 : decode cX11_lets 95 = .ok (.aload_n 0, 1) := by decide +kernel
theorem dX11_lets_96 : decode cX11_lets 96 = .ok (.iconst 0, 1) := by decide +kernel
theorem dX11_lets_97 : decode cX11_lets 97 = .ok (.putfield 342, 3) := by decide +kernel
theorem dX11_quake_0 : decode cX11_quake 0 = .ok (.aload_n 0, 1) := by decide +kernel
theorem dX11_quake_1 : decode cX11_quake 1 = .ok (.iconst 0, 1) := by decide +kernel
theorem dX11_quake_10 : decode cX11_quake 10 = .ok (.invokevirtual 396, 3) := by decide +kernel
theorem dX11_quake_13 : decode cX11_quake 13 = .ok (.ireturn, 1) := by decide +kernel
theorem dX11_quake_2 : decode cX11_quake 2 = .ok (.putfield 70, 3) := by decide +kernel
theorem dX11_quake_5 : decode cX11_quake 5 = .ok (.aload_n 0, 1) := by decide +kernel
theorem dX11_quake_6 : decode cX11_quake 6 = .ok (.invokevirtual 383, 3) := by decide +kernel
theorem dX11_quake_9 : decode cX11_quake 9 = .ok (.aload_n 0, 1) := by decide +kernel
theorem dX11_quakes_0 : decode cX11_quakes 0 = .ok (.aload_n 0, 1) := by decide +kernel
theorem dX11_quakes_1 : decode cX11_quakes 1 = .ok (.iconst 0, 1) := by decide +kernel
theorem dX11_quakes_10 : decode cX11_quakes 10 = .ok (.aload_n 0, 1) := by decide +kernel
theorem dX11_quakes_11 : decode cX11_quakes 11 = .ok (.iconst 1, 1) := by decide +kernel
theorem dX11_quakes_12 : decode cX11_quakes 12 = .ok (.invokevirtual 351, 3) := by decide +kernel
theorem dX11_quakes_15 : decode cX11_quakes 15 = .ok (.aload_n 0, 1) := by decide +kernel
theorem dX11_quakes_16 : decode cX11_quakes 16 = .ok (.getfield 339, 3) := by decide +kernel
theorem dX11_quakes_19 : decode cX11_quakes 19 = .ok (.invokestatic 330, 3) := by decide +kernel
theorem dX11_quakes_2 : decode cX11_quakes 2 = .ok (.putfield 339, 3) := by decide +kernel
theorem dX11_quakes_22 : decode cX11_quakes 22 = .ok (.ireturn, 1) := by decide +kernel
theorem dX11_quakes_5 : decode cX11_quakes 5 = .ok (.aload_n 0, 1) := by decide +kernel
theorem dX11_quakes_6 : decode cX11_quakes 6 = .ok (.iconst 0, 1) := by decide +kernel
theorem dX11_quakes_7 : decode cX11_quakes 7 = .ok (.putfield 342, 3) := by decide +kernel
theorem dX11_whyLet_0 : decode cX11_whyLet 0 = .ok (.aload_n 0, 1) := by decide +kernel
theorem dX11_whyLet_1 : decode cX11_whyLet 1 = .ok (.lload_n 1, 1) := by decide +kernel
theorem dX11_whyLet_10 : decode cX11_whyLet 10 = .ok (.lload 5, 2) := by decide +kernel
theorem dX11_whyLet_12 : decode cX11_whyLet 12 = .ok (.invokevirtual 373, 3) := by decide +kernel
theorem dX11_whyLet_15 : decode cX11_whyLet 15 = .ok (.ifCond .ne 5, 3) := by decide +kernel
theorem dX11_whyLet_18 : decode cX11_whyLet 18 = .ok (.iconst 1, 1) := by decide +kernel
theorem dX11_whyLet_19 : decode cX11_whyLet 19 = .ok (.ireturn, 1) := by decide +kernel
theorem dX11_whyLet_2 : decode cX11_whyLet 2 = .ok (.invokevirtual 363, 3) := by decide +kernel
theorem dX11_whyLet_20 : decode cX11_whyLet 20 = .ok (.aload_n 0, 1) := by decide +kernel
theorem dX11_whyLet_21 : decode cX11_whyLet 21 = .ok (.lload_n 1, 1) := by decide +kernel
theorem dX11_whyLet_22 : decode cX11_whyLet 22 = .ok (.l2i, 1) := by decide +kernel
theorem dX11_whyLet_23 : decode cX11_whyLet 23 = .ok (.iconst 0, 1) := by decide +kernel
theorem dX11_whyLet_24 : decode cX11_whyLet 24 = .ok (.invokevirtual 283, 3) := by decide +kernel
theorem dX11_whyLet_27 : decode cX11_whyLet 27 = .ok (.ifCond .ne 7, 3) := by decide +kernel
theorem dX11_whyLet_30 : decode cX11_whyLet 30 = .ok (.iconst 2, 1) := by decide +kernel
theorem dX11_whyLet_31 : decode cX11_whyLet 31 = .ok (.goto 23, 3) := by decide +kernel
theorem dX11_whyLet_34 : decode cX11_whyLet 34 = .ok (.aload_n 0, 1) := by decide +kernel
theorem dX11_whyLet_35 : decode cX11_whyLet 35 = .ok (.getfield 9, 3) := by decide +kernel
theorem dX11_whyLet_38 : decode cX11_whyLet 38 = .ok (.lload_n 3, 1) := by decide +kernel
theorem dX11_whyLet_39 : decode cX11_whyLet 39 = .ok (.l2i, 1) := by decide +kernel
theorem dX11_whyLet_40 : decode cX11_whyLet 40 = .ok (.lload 5, 2) := by decide +kernel
theorem dX11_whyLet_42 : decode cX11_whyLet 42 = .ok (.l2i, 1) := by decide +kernel
theorem dX11_whyLet_43 : decode cX11_whyLet 43 = .ok (.invokestatic 216, 3) := by decide +kernel
theorem dX11_whyLet_46 : decode cX11_whyLet 46 = .ok (.ifCond .eq 7, 3) := by decide +kernel
theorem dX11_whyLet_49 : decode cX11_whyLet 49 = .ok (.iconst 0, 1) := by decide +kernel
theorem dX11_whyLet_5 : decode cX11_whyLet 5 = .ok (.ifCond .eq 13, 3) := by decide +kernel
theorem dX11_whyLet_50 : decode cX11_whyLet 50 = .ok (.goto 4, 3) := by decide +kernel
theorem dX11_whyLet_53 : decode cX11_whyLet 53 = .ok (.iconst 3, 1) := by decide +kernel
theorem dX11_whyLet_54 : decode cX11_whyLet 54 = .ok (.ireturn, 1) := by decide +kernel
theorem dX11_whyLet_8 : decode cX11_whyLet 8 = .ok (.aload_n 0, 1) := by decide +kernel
theorem dX11_whyLet_9 : decode cX11_whyLet 9 = .ok (.lload_n 3, 1) := by decide +kernel
theorem dX11_whyTold_0 : decode cX11_whyTold 0 = .ok (.lload_n 1, 1) := by decide +kernel
theorem dX11_whyTold_1 : decode cX11_whyTold 1 = .ok (.ldc2_w 408, 3) := by decide +kernel
theorem dX11_whyTold_12 : decode cX11_whyTold 12 = .ok (.lcmp, 1) := by decide +kernel
theorem dX11_whyTold_13 : decode cX11_whyTold 13 = .ok (.ifCond .ne 5, 3) := by decide +kernel
theorem dX11_whyTold_16 : decode cX11_whyTold 16 = .ok (.iconst 0, 1) := by decide +kernel
theorem dX11_whyTold_17 : decode cX11_whyTold 17 = .ok (.ireturn, 1) := by decide +kernel
theorem dX11_whyTold_18 : decode cX11_whyTold 18 = .ok (.lload_n 1, 1) := by decide +kernel
theorem dX11_whyTold_19 : decode cX11_whyTold 19 = .ok (.lconst 0, 1) := by decide +kernel
theorem dX11_whyTold_20 : decode cX11_whyTold 20 = .ok (.ldc2_w 412, 3) := by decide +kernel
theorem dX11_whyTold_23 : decode cX11_whyTold 23 = .ok (.invokestatic 131, 3) := by decide +kernel
theorem dX11_whyTold_26 : decode cX11_whyTold 26 = .ok (.ifCond .eq 27, 3) := by decide +kernel
theorem dX11_whyTold_29 : decode cX11_whyTold 29 = .ok (.aload_n 0, 1) := by decide +kernel
theorem dX11_whyTold_30 : decode cX11_whyTold 30 = .ok (.lload_n 1, 1) := by decide +kernel
theorem dX11_whyTold_31 : decode cX11_whyTold 31 = .ok (.ldc2_w 414, 3) := by decide +kernel
theorem dX11_whyTold_34 : decode cX11_whyTold 34 = .ok (.ldiv, 1) := by decide +kernel
theorem dX11_whyTold_35 : decode cX11_whyTold 35 = .ok (.lload_n 1, 1) := by decide +kernel
theorem dX11_whyTold_36 : decode cX11_whyTold 36 = .ok (.ldc2_w 403, 3) := by decide +kernel
theorem dX11_whyTold_39 : decode cX11_whyTold 39 = .ok (.ldiv, 1) := by decide +kernel
theorem dX11_whyTold_4 : decode cX11_whyTold 4 = .ok (.lcmp, 1) := by decide +kernel
theorem dX11_whyTold_40 : decode cX11_whyTold 40 = .ok (.ldc2_w 403, 3) := by decide +kernel
theorem dX11_whyTold_43 : decode cX11_whyTold 43 = .ok (.lrem, 1) := by decide +kernel
theorem dX11_whyTold_44 : decode cX11_whyTold 44 = .ok (.lload_n 1, 1) := by decide +kernel
theorem dX11_whyTold_45 : decode cX11_whyTold 45 = .ok (.ldc2_w 403, 3) := by decide +kernel
theorem dX11_whyTold_48 : decode cX11_whyTold 48 = .ok (.lrem, 1) := by decide +kernel
theorem dX11_whyTold_49 : decode cX11_whyTold 49 = .ok (.invokevirtual 379, 3) := by decide +kernel
theorem dX11_whyTold_5 : decode cX11_whyTold 5 = .ok (.ifCond .eq 11, 3) := by decide +kernel
theorem dX11_whyTold_52 : decode cX11_whyTold 52 = .ok (.ireturn, 1) := by decide +kernel
theorem dX11_whyTold_53 : decode cX11_whyTold 53 = .ok (.lload_n 1, 1) := by decide +kernel
theorem dX11_whyTold_54 : decode cX11_whyTold 54 = .ok (.ldc2_w 416, 3) := by decide +kernel
theorem dX11_whyTold_57 : decode cX11_whyTold 57 = .ok (.ldc2_w 418, 3) := by decide +kernel
theorem dX11_whyTold_60 : decode cX11_whyTold 60 = .ok (.invokestatic 131, 3) := by decide +kernel
theorem dX11_whyTold_63 : decode cX11_whyTold 63 = .ok (.ifCond .eq 15, 3) := by decide +kernel
theorem dX11_whyTold_66 : decode cX11_whyTold 66 = .ok (.aload_n 0, 1) := by decide +kernel
theorem dX11_whyTold_67 : decode cX11_whyTold 67 = .ok (.lload_n 1, 1) := by decide +kernel
theorem dX11_whyTold_68 : decode cX11_whyTold 68 = .ok (.ldc2_w 416, 3) := by decide +kernel
theorem dX11_whyTold_71 : decode cX11_whyTold 71 = .ok (.lsub, 1) := by decide +kernel
theorem dX11_whyTold_72 : decode cX11_whyTold 72 = .ok (.invokevirtual 390, 3) := by decide +kernel
theorem dX11_whyTold_75 : decode cX11_whyTold 75 = .ok (.goto 4, 3) := by decide +kernel
theorem dX11_whyTold_78 : decode cX11_whyTold 78 = .ok (.iconst 1, 1) := by decide +kernel
theorem dX11_whyTold_79 : decode cX11_whyTold 79 = .ok (.ireturn, 1) := by decide +kernel
theorem dX11_whyTold_8 : decode cX11_whyTold 8 = .ok (.lload_n 1, 1) := by decide +kernel
theorem dX11_whyTold_9 : decode cX11_whyTold 9 = .ok (.ldc2_w 410, 3) := by decide +kernel
