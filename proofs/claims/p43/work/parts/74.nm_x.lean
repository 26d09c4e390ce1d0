theorem dX11_drops_0 : decode cX11_drops 0 = .ok (.iload_n 2, 1) := by decide +kernel
theorem dX11_drops_1 : decode cX11_drops 1 = .ok (.ifCond .ne 4, 3) := by decide +kernel
theorem dX11_drops_100 : decode cX11_drops 100 = .ok (.aload_n 0, 1) := by decide +kernel
theorem dX11_drops_101 : decode cX11_drops 101 = .ok (.getfield 9, 3) := by decide +kernel
theorem dX11_drops_104 : decode cX11_drops 104 = .ok (.bipush 8, 2) := by decide +kernel
theorem dX11_drops_106 : decode cX11_drops 106 = .ok (.iload 7, 2) := by decide +kernel
theorem dX11_drops_108 : decode cX11_drops 108 = .ok (.iadd, 1) := by decide +kernel
theorem dX11_drops_109 : decode cX11_drops 109 = .ok (.iconst 2, 1) := by decide +kernel
theorem dX11_drops_11 : decode cX11_drops 11 = .ok (.istore_n 3, 1) := by decide +kernel
theorem dX11_drops_110 : decode cX11_drops 110 = .ok (.iastore, 1) := by decide +kernel
theorem dX11_drops_111 : decode cX11_drops 111 = .ok (.aload_n 0, 1) := by decide +kernel
theorem dX11_drops_112 : decode cX11_drops 112 = .ok (.getfield 9, 3) := by decide +kernel
theorem dX11_drops_115 : decode cX11_drops 115 = .ok (.bipush 24, 2) := by decide +kernel
theorem dX11_drops_117 : decode cX11_drops 117 = .ok (.iload 7, 2) := by decide +kernel
theorem dX11_drops_119 : decode cX11_drops 119 = .ok (.iadd, 1) := by decide +kernel
theorem dX11_drops_12 : decode cX11_drops 12 = .ok (.iconst 0, 1) := by decide +kernel
theorem dX11_drops_120 : decode cX11_drops 120 = .ok (.iload 5, 2) := by decide +kernel
theorem dX11_drops_122 : decode cX11_drops 122 = .ok (.iastore, 1) := by decide +kernel
theorem dX11_drops_123 : decode cX11_drops 123 = .ok (.aload_n 0, 1) := by decide +kernel
theorem dX11_drops_124 : decode cX11_drops 124 = .ok (.getfield 9, 3) := by decide +kernel
theorem dX11_drops_127 : decode cX11_drops 127 = .ok (.bipush 32, 2) := by decide +kernel
theorem dX11_drops_129 : decode cX11_drops 129 = .ok (.iload 7, 2) := by decide +kernel
theorem dX11_drops_13 : decode cX11_drops 13 = .ok (.istore 4, 2) := by decide +kernel
theorem dX11_drops_131 : decode cX11_drops 131 = .ok (.iadd, 1) := by decide +kernel
theorem dX11_drops_132 : decode cX11_drops 132 = .ok (.iconst 0, 1) := by decide +kernel
theorem dX11_drops_133 : decode cX11_drops 133 = .ok (.iastore, 1) := by decide +kernel
theorem dX11_drops_134 : decode cX11_drops 134 = .ok (.iinc 5 1, 3) := by decide +kernel
theorem dX11_drops_137 : decode cX11_drops 137 = .ok (.iload_n 3, 1) := by decide +kernel
theorem dX11_drops_138 : decode cX11_drops 138 = .ok (.iconst 1, 1) := by decide +kernel
theorem dX11_drops_139 : decode cX11_drops 139 = .ok (.iload 7, 2) := by decide +kernel
theorem dX11_drops_141 : decode cX11_drops 141 = .ok (.ishl, 1) := by decide +kernel
theorem dX11_drops_142 : decode cX11_drops 142 = .ok (.iconst (-1), 1) := by decide +kernel
theorem dX11_drops_143 : decode cX11_drops 143 = .ok (.ixor, 1) := by decide +kernel
theorem dX11_drops_144 : decode cX11_drops 144 = .ok (.iand, 1) := by decide +kernel
theorem dX11_drops_145 : decode cX11_drops 145 = .ok (.istore_n 3, 1) := by decide +kernel
theorem dX11_drops_146 : decode cX11_drops 146 = .ok (.aload_n 0, 1) := by decide +kernel
theorem dX11_drops_147 : decode cX11_drops 147 = .ok (.dup, 1) := by decide +kernel
theorem dX11_drops_148 : decode cX11_drops 148 = .ok (.getfield 339, 3) := by decide +kernel
theorem dX11_drops_15 : decode cX11_drops 15 = .ok (.aload_n 0, 1) := by decide +kernel
theorem dX11_drops_151 : decode cX11_drops 151 = .ok (.iconst 1, 1) := by decide +kernel
theorem dX11_drops_152 : decode cX11_drops 152 = .ok (.iload 7, 2) := by decide +kernel
theorem dX11_drops_154 : decode cX11_drops 154 = .ok (.ishl, 1) := by decide +kernel
theorem dX11_drops_155 : decode cX11_drops 155 = .ok (.ior, 1) := by decide +kernel
theorem dX11_drops_156 : decode cX11_drops 156 = .ok (.putfield 339, 3) := by decide +kernel
theorem dX11_drops_159 : decode cX11_drops 159 = .ok (.iinc 7 1, 3) := by decide +kernel
theorem dX11_drops_16 : decode cX11_drops 16 = .ok (.iload_n 1, 1) := by decide +kernel
theorem dX11_drops_162 : decode cX11_drops 162 = .ok (.goto (-123), 3) := by decide +kernel
theorem dX11_drops_165 : decode cX11_drops 165 = .ok (.iinc 6 1, 3) := by decide +kernel
theorem dX11_drops_168 : decode cX11_drops 168 = .ok (.goto (-143), 3) := by decide +kernel
theorem dX11_drops_17 : decode cX11_drops 17 = .ok (.invokevirtual 311, 3) := by decide +kernel
theorem dX11_drops_171 : decode cX11_drops 171 = .ok (.aload_n 0, 1) := by decide +kernel
theorem dX11_drops_172 : decode cX11_drops 172 = .ok (.dup, 1) := by decide +kernel
theorem dX11_drops_173 : decode cX11_drops 173 = .ok (.getfield 342, 3) := by decide +kernel
theorem dX11_drops_176 : decode cX11_drops 176 = .ok (.iconst 1, 1) := by decide +kernel
theorem dX11_drops_177 : decode cX11_drops 177 = .ok (.iload_n 1, 1) := by decide +kernel
theorem dX11_drops_178 : decode cX11_drops 178 = .ok (.ishl, 1) := by decide +kernel
theorem dX11_drops_179 : decode cX11_drops 179 = .ok (.ior, 1) := by decide +kernel
theorem dX11_drops_180 : decode cX11_drops 180 = .ok (.putfield 342, 3) := by decide +kernel
theorem dX11_drops_183 : decode cX11_drops 183 = .ok (.iconst 0, 1) := by decide +kernel
theorem dX11_drops_184 : decode cX11_drops 184 = .ok (.istore 6, 2) := by decide +kernel
theorem dX11_drops_186 : decode cX11_drops 186 = .ok (.iload 6, 2) := by decide +kernel
theorem dX11_drops_188 : decode cX11_drops 188 = .ok (.aload_n 0, 1) := by decide +kernel
theorem dX11_drops_189 : decode cX11_drops 189 = .ok (.getfield 9, 3) := by decide +kernel
theorem dX11_drops_192 : decode cX11_drops 192 = .ok (.iconst 4, 1) := by decide +kernel
theorem dX11_drops_193 : decode cX11_drops 193 = .ok (.iaload, 1) := by decide +kernel
theorem dX11_drops_194 : decode cX11_drops 194 = .ok (.if_icmp .ge 45, 3) := by decide +kernel
theorem dX11_drops_197 : decode cX11_drops 197 = .ok (.aload_n 0, 1) := by decide +kernel
theorem dX11_drops_198 : decode cX11_drops 198 = .ok (.getfield 9, 3) := by decide +kernel
theorem dX11_drops_20 : decode cX11_drops 20 = .ok (.istore 5, 2) := by decide +kernel
theorem dX11_drops_201 : decode cX11_drops 201 = .ok (.bipush 41, 2) := by decide +kernel
theorem dX11_drops_203 : decode cX11_drops 203 = .ok (.iload 6, 2) := by decide +kernel
theorem dX11_drops_205 : decode cX11_drops 205 = .ok (.iadd, 1) := by decide +kernel
theorem dX11_drops_206 : decode cX11_drops 206 = .ok (.dup2, 1) := by decide +kernel
theorem dX11_drops_207 : decode cX11_drops 207 = .ok (.iaload, 1) := by decide +kernel
theorem dX11_drops_208 : decode cX11_drops 208 = .ok (.aload_n 0, 1) := by decide +kernel
theorem dX11_drops_209 : decode cX11_drops 209 = .ok (.iload 6, 2) := by decide +kernel
theorem dX11_drops_211 : decode cX11_drops 211 = .ok (.aload_n 0, 1) := by decide +kernel
theorem dX11_drops_212 : decode cX11_drops 212 = .ok (.getfield 9, 3) := by decide +kernel
theorem dX11_drops_215 : decode cX11_drops 215 = .ok (.bipush 40, 2) := by decide +kernel
theorem dX11_drops_217 : decode cX11_drops 217 = .ok (.iaload, 1) := by decide +kernel
theorem dX11_drops_218 : decode cX11_drops 218 = .ok (.invokevirtual 345, 3) := by decide +kernel
theorem dX11_drops_22 : decode cX11_drops 22 = .ok (.iconst 0, 1) := by decide +kernel
theorem dX11_drops_221 : decode cX11_drops 221 = .ok (.iload_n 1, 1) := by decide +kernel
theorem dX11_drops_222 : decode cX11_drops 222 = .ok (.if_icmp .ne 8, 3) := by decide +kernel
theorem dX11_drops_225 : decode cX11_drops 225 = .ok (.iload 4, 2) := by decide +kernel
theorem dX11_drops_227 : decode cX11_drops 227 = .ok (.goto 4, 3) := by decide +kernel
theorem dX11_drops_23 : decode cX11_drops 23 = .ok (.istore 6, 2) := by decide +kernel
theorem dX11_drops_230 : decode cX11_drops 230 = .ok (.iconst 0, 1) := by decide +kernel
theorem dX11_drops_231 : decode cX11_drops 231 = .ok (.iadd, 1) := by decide +kernel
theorem dX11_drops_232 : decode cX11_drops 232 = .ok (.iastore, 1) := by decide +kernel
theorem dX11_drops_233 : decode cX11_drops 233 = .ok (.iinc 6 1, 3) := by decide +kernel
theorem dX11_drops_236 : decode cX11_drops 236 = .ok (.goto (-50), 3) := by decide +kernel
theorem dX11_drops_239 : decode cX11_drops 239 = .ok (.return_, 1) := by decide +kernel
theorem dX11_drops_25 : decode cX11_drops 25 = .ok (.iload 6, 2) := by decide +kernel
theorem dX11_drops_27 : decode cX11_drops 27 = .ok (.aload_n 0, 1) := by decide +kernel
theorem dX11_drops_28 : decode cX11_drops 28 = .ok (.getfield 9, 3) := by decide +kernel
theorem dX11_drops_31 : decode cX11_drops 31 = .ok (.iconst 2, 1) := by decide +kernel
theorem dX11_drops_32 : decode cX11_drops 32 = .ok (.iaload, 1) := by decide +kernel
theorem dX11_drops_33 : decode cX11_drops 33 = .ok (.if_icmp .ge 138, 3) := by decide +kernel
theorem dX11_drops_36 : decode cX11_drops 36 = .ok (.iconst 0, 1) := by decide +kernel
theorem dX11_drops_37 : decode cX11_drops 37 = .ok (.istore 7, 2) := by decide +kernel
theorem dX11_drops_39 : decode cX11_drops 39 = .ok (.iload 7, 2) := by decide +kernel
theorem dX11_drops_4 : decode cX11_drops 4 = .ok (.return_, 1) := by decide +kernel
theorem dX11_drops_41 : decode cX11_drops 41 = .ok (.aload_n 0, 1) := by decide +kernel
theorem dX11_drops_42 : decode cX11_drops 42 = .ok (.invokevirtual 280, 3) := by decide +kernel
theorem dX11_drops_45 : decode cX11_drops 45 = .ok (.if_icmp .ge 120, 3) := by decide +kernel
theorem dX11_drops_48 : decode cX11_drops 48 = .ok (.iload_n 3, 1) := by decide +kernel
theorem dX11_drops_49 : decode cX11_drops 49 = .ok (.iload 7, 2) := by decide +kernel
theorem dX11_drops_5 : decode cX11_drops 5 = .ok (.aload_n 0, 1) := by decide +kernel
theorem dX11_drops_51 : decode cX11_drops 51 = .ok (.invokestatic 323, 3) := by decide +kernel
theorem dX11_drops_54 : decode cX11_drops 54 = .ok (.ifCond .eq 105, 3) := by decide +kernel
theorem dX11_drops_57 : decode cX11_drops 57 = .ok (.aload_n 0, 1) := by decide +kernel
theorem dX11_drops_58 : decode cX11_drops 58 = .ok (.iload 7, 2) := by decide +kernel
theorem dX11_drops_6 : decode cX11_drops 6 = .ok (.iload_n 1, 1) := by decide +kernel
theorem dX11_drops_60 : decode cX11_drops 60 = .ok (.iconst 1, 1) := by decide +kernel
theorem dX11_drops_61 : decode cX11_drops 61 = .ok (.invokevirtual 283, 3) := by decide +kernel
theorem dX11_drops_64 : decode cX11_drops 64 = .ok (.ifCond .eq 95, 3) := by decide +kernel
theorem dX11_drops_67 : decode cX11_drops 67 = .ok (.aload_n 0, 1) := by decide +kernel
theorem dX11_drops_68 : decode cX11_drops 68 = .ok (.getfield 9, 3) := by decide +kernel
theorem dX11_drops_7 : decode cX11_drops 7 = .ok (.iload_n 2, 1) := by decide +kernel
theorem dX11_drops_71 : decode cX11_drops 71 = .ok (.bipush 24, 2) := by decide +kernel
theorem dX11_drops_73 : decode cX11_drops 73 = .ok (.iload 7, 2) := by decide +kernel
theorem dX11_drops_75 : decode cX11_drops 75 = .ok (.iadd, 1) := by decide +kernel
theorem dX11_drops_76 : decode cX11_drops 76 = .ok (.iaload, 1) := by decide +kernel
theorem dX11_drops_77 : decode cX11_drops 77 = .ok (.iload 6, 2) := by decide +kernel
theorem dX11_drops_79 : decode cX11_drops 79 = .ok (.if_icmp .eq 6, 3) := by decide +kernel
theorem dX11_drops_8 : decode cX11_drops 8 = .ok (.invokevirtual 336, 3) := by decide +kernel
theorem dX11_drops_82 : decode cX11_drops 82 = .ok (.goto 77, 3) := by decide +kernel
theorem dX11_drops_85 : decode cX11_drops 85 = .ok (.iload 4, 2) := by decide +kernel
theorem dX11_drops_87 : decode cX11_drops 87 = .ok (.aload_n 0, 1) := by decide +kernel
theorem dX11_drops_88 : decode cX11_drops 88 = .ok (.getfield 9, 3) := by decide +kernel
theorem dX11_drops_91 : decode cX11_drops 91 = .ok (.bipush 45, 2) := by decide +kernel
theorem dX11_drops_93 : decode cX11_drops 93 = .ok (.iload 7, 2) := by decide +kernel
theorem dX11_drops_95 : decode cX11_drops 95 = .ok (.iadd, 1) := by decide +kernel
theorem dX11_drops_96 : decode cX11_drops 96 = .ok (.iaload, 1) := by decide +kernel
theorem dX11_drops_97 : decode cX11_drops 97 = .ok (.iadd, 1) := by decide +kernel
theorem dX11_drops_98 : decode cX11_drops 98 = .ok (.istore 4, 2) := by decide +kernel
theorem dX11_fallAll_0 : decode cX11_fallAll 0 = .ok (.iconst 0, 1) := by decide +kernel
theorem dX11_fallAll_1 : decode cX11_fallAll 1 = .ok (.istore_n 2, 1) := by decide +kernel
theorem dX11_fallAll_12 : decode cX11_fallAll 12 = .ok (.iconst 0, 1) := by decide +kernel
theorem dX11_fallAll_13 : decode cX11_fallAll 13 = .ok (.istore_n 3, 1) := by decide +kernel
theorem dX11_fallAll_14 : decode cX11_fallAll 14 = .ok (.iconst 0, 1) := by decide +kernel
theorem dX11_fallAll_15 : decode cX11_fallAll 15 = .ok (.istore 4, 2) := by decide +kernel
theorem dX11_fallAll_17 : decode cX11_fallAll 17 = .ok (.iload 4, 2) := by decide +kernel
theorem dX11_fallAll_19 : decode cX11_fallAll 19 = .ok (.aload_n 0, 1) := by decide +kernel
theorem dX11_fallAll_2 : decode cX11_fallAll 2 = .ok (.iload_n 2, 1) := by decide +kernel
theorem dX11_fallAll_20 : decode cX11_fallAll 20 = .ok (.invokevirtual 280, 3) := by decide +kernel
theorem dX11_fallAll_23 : decode cX11_fallAll 23 = .ok (.if_icmp .ge 54, 3) := by decide +kernel
theorem dX11_fallAll_26 : decode cX11_fallAll 26 = .ok (.iload_n 3, 1) := by decide +kernel
theorem dX11_fallAll_27 : decode cX11_fallAll 27 = .ok (.aload_n 0, 1) := by decide +kernel
theorem dX11_fallAll_28 : decode cX11_fallAll 28 = .ok (.iload 4, 2) := by decide +kernel
theorem dX11_fallAll_3 : decode cX11_fallAll 3 = .ok (.aload_n 0, 1) := by decide +kernel
theorem dX11_fallAll_30 : decode cX11_fallAll 30 = .ok (.iload_n 2, 1) := by decide +kernel
theorem dX11_fallAll_31 : decode cX11_fallAll 31 = .ok (.invokevirtual 320, 3) := by decide +kernel
theorem dX11_fallAll_34 : decode cX11_fallAll 34 = .ok (.ifCond .eq 34, 3) := by decide +kernel
theorem dX11_fallAll_37 : decode cX11_fallAll 37 = .ok (.iload_n 1, 1) := by decide +kernel
theorem dX11_fallAll_38 : decode cX11_fallAll 38 = .ok (.ifCond .ne 23, 3) := by decide +kernel
theorem dX11_fallAll_4 : decode cX11_fallAll 4 = .ok (.getfield 9, 3) := by decide +kernel
theorem dX11_fallAll_41 : decode cX11_fallAll 41 = .ok (.aload_n 0, 1) := by decide +kernel
theorem dX11_fallAll_42 : decode cX11_fallAll 42 = .ok (.getfield 9, 3) := by decide +kernel
theorem dX11_fallAll_45 : decode cX11_fallAll 45 = .ok (.bipush 32, 2) := by decide +kernel
theorem dX11_fallAll_47 : decode cX11_fallAll 47 = .ok (.iload 4, 2) := by decide +kernel
theorem dX11_fallAll_49 : decode cX11_fallAll 49 = .ok (.iadd, 1) := by decide +kernel
theorem dX11_fallAll_50 : decode cX11_fallAll 50 = .ok (.iaload, 1) := by decide +kernel
theorem dX11_fallAll_51 : decode cX11_fallAll 51 = .ok (.aload_n 0, 1) := by decide +kernel
theorem dX11_fallAll_52 : decode cX11_fallAll 52 = .ok (.getfield 9, 3) := by decide +kernel
theorem dX11_fallAll_55 : decode cX11_fallAll 55 = .ok (.bipush 40, 2) := by decide +kernel
theorem dX11_fallAll_57 : decode cX11_fallAll 57 = .ok (.iaload, 1) := by decide +kernel
theorem dX11_fallAll_58 : decode cX11_fallAll 58 = .ok (.if_icmp .gt 10, 3) := by decide +kernel
theorem dX11_fallAll_61 : decode cX11_fallAll 61 = .ok (.iconst 1, 1) := by decide +kernel
theorem dX11_fallAll_62 : decode cX11_fallAll 62 = .ok (.iload 4, 2) := by decide +kernel
theorem dX11_fallAll_64 : decode cX11_fallAll 64 = .ok (.ishl, 1) := by decide +kernel
theorem dX11_fallAll_65 : decode cX11_fallAll 65 = .ok (.goto 4, 3) := by decide +kernel
theorem dX11_fallAll_68 : decode cX11_fallAll 68 = .ok (.iconst 0, 1) := by decide +kernel
theorem dX11_fallAll_69 : decode cX11_fallAll 69 = .ok (.ior, 1) := by decide +kernel
theorem dX11_fallAll_7 : decode cX11_fallAll 7 = .ok (.iconst 1, 1) := by decide +kernel
theorem dX11_fallAll_70 : decode cX11_fallAll 70 = .ok (.istore_n 3, 1) := by decide +kernel
theorem dX11_fallAll_71 : decode cX11_fallAll 71 = .ok (.iinc 4 1, 3) := by decide +kernel
theorem dX11_fallAll_74 : decode cX11_fallAll 74 = .ok (.goto (-57), 3) := by decide +kernel
theorem dX11_fallAll_77 : decode cX11_fallAll 77 = .ok (.aload_n 0, 1) := by decide +kernel
theorem dX11_fallAll_78 : decode cX11_fallAll 78 = .ok (.iload_n 2, 1) := by decide +kernel
theorem dX11_fallAll_79 : decode cX11_fallAll 79 = .ok (.iload_n 3, 1) := by decide +kernel
theorem dX11_fallAll_8 : decode cX11_fallAll 8 = .ok (.iaload, 1) := by decide +kernel
theorem dX11_fallAll_80 : decode cX11_fallAll 80 = .ok (.invokevirtual 348, 3) := by decide +kernel
theorem dX11_fallAll_83 : decode cX11_fallAll 83 = .ok (.iinc 2 1, 3) := by decide +kernel
theorem dX11_fallAll_86 : decode cX11_fallAll 86 = .ok (.goto (-84), 3) := by decide +kernel
theorem dX11_fallAll_89 : decode cX11_fallAll 89 = .ok (.return_, 1) := by decide +kernel
theorem dX11_fallAll_9 : decode cX11_fallAll 9 = .ok (.if_icmp .ge 80, 3) := by decide +kernel
theorem dX11_fallingWith_0 : decode cX11_fallingWith 0 = .ok (.iload_n 2, 1) := by decide +kernel
theorem dX11_fallingWith_1 : decode cX11_fallingWith 1 = .ok (.istore_n 3, 1) := by decide +kernel
theorem dX11_fallingWith_11 : decode cX11_fallingWith 11 = .ok (.iload_n 3, 1) := by decide +kernel
theorem dX11_fallingWith_12 : decode cX11_fallingWith 12 = .ok (.istore 4, 2) := by decide +kernel
theorem dX11_fallingWith_14 : decode cX11_fallingWith 14 = .ok (.iconst 0, 1) := by decide +kernel
theorem dX11_fallingWith_15 : decode cX11_fallingWith 15 = .ok (.istore 5, 2) := by decide +kernel
theorem dX11_fallingWith_17 : decode cX11_fallingWith 17 = .ok (.iload 5, 2) := by decide +kernel
theorem dX11_fallingWith_19 : decode cX11_fallingWith 19 = .ok (.aload_n 0, 1) := by decide +kernel
theorem dX11_fallingWith_2 : decode cX11_fallingWith 2 = .ok (.iconst (-1), 1) := by decide +kernel
theorem dX11_fallingWith_20 : decode cX11_fallingWith 20 = .ok (.invokevirtual 280, 3) := by decide +kernel
theorem dX11_fallingWith_23 : decode cX11_fallingWith 23 = .ok (.if_icmp .ge 47, 3) := by decide +kernel
theorem dX11_fallingWith_26 : decode cX11_fallingWith 26 = .ok (.aload_n 0, 1) := by decide +kernel
theorem dX11_fallingWith_27 : decode cX11_fallingWith 27 = .ok (.iload 5, 2) := by decide +kernel
theorem dX11_fallingWith_29 : decode cX11_fallingWith 29 = .ok (.iload_n 1, 1) := by decide +kernel
theorem dX11_fallingWith_3 : decode cX11_fallingWith 3 = .ok (.istore 4, 2) := by decide +kernel
theorem dX11_fallingWith_30 : decode cX11_fallingWith 30 = .ok (.invokevirtual 320, 3) := by decide +kernel
theorem dX11_fallingWith_33 : decode cX11_fallingWith 33 = .ok (.ifCond .eq 31, 3) := by decide +kernel
theorem dX11_fallingWith_36 : decode cX11_fallingWith 36 = .ok (.iload_n 3, 1) := by decide +kernel
theorem dX11_fallingWith_37 : decode cX11_fallingWith 37 = .ok (.iload 5, 2) := by decide +kernel
theorem dX11_fallingWith_39 : decode cX11_fallingWith 39 = .ok (.invokestatic 323, 3) := by decide +kernel
theorem dX11_fallingWith_42 : decode cX11_fallingWith 42 = .ok (.ifCond .ne 22, 3) := by decide +kernel
theorem dX11_fallingWith_45 : decode cX11_fallingWith 45 = .ok (.aload_n 0, 1) := by decide +kernel
theorem dX11_fallingWith_46 : decode cX11_fallingWith 46 = .ok (.iload 5, 2) := by decide +kernel
theorem dX11_fallingWith_48 : decode cX11_fallingWith 48 = .ok (.iload_n 1, 1) := by decide +kernel
theorem dX11_fallingWith_49 : decode cX11_fallingWith 49 = .ok (.iload 4, 2) := by decide +kernel
theorem dX11_fallingWith_5 : decode cX11_fallingWith 5 = .ok (.iload 4, 2) := by decide +kernel
theorem dX11_fallingWith_51 : decode cX11_fallingWith 51 = .ok (.invokevirtual 326, 3) := by decide +kernel
theorem dX11_fallingWith_54 : decode cX11_fallingWith 54 = .ok (.ifCond .eq 10, 3) := by decide +kernel
theorem dX11_fallingWith_57 : decode cX11_fallingWith 57 = .ok (.iload_n 3, 1) := by decide +kernel
theorem dX11_fallingWith_58 : decode cX11_fallingWith 58 = .ok (.iconst 1, 1) := by decide +kernel
theorem dX11_fallingWith_59 : decode cX11_fallingWith 59 = .ok (.iload 5, 2) := by decide +kernel
theorem dX11_fallingWith_61 : decode cX11_fallingWith 61 = .ok (.ishl, 1) := by decide +kernel
theorem dX11_fallingWith_62 : decode cX11_fallingWith 62 = .ok (.ior, 1) := by decide +kernel
theorem dX11_fallingWith_63 : decode cX11_fallingWith 63 = .ok (.istore_n 3, 1) := by decide +kernel
theorem dX11_fallingWith_64 : decode cX11_fallingWith 64 = .ok (.iinc 5 1, 3) := by decide +kernel
theorem dX11_fallingWith_67 : decode cX11_fallingWith 67 = .ok (.goto (-50), 3) := by decide +kernel
theorem dX11_fallingWith_7 : decode cX11_fallingWith 7 = .ok (.iload_n 3, 1) := by decide +kernel
theorem dX11_fallingWith_70 : decode cX11_fallingWith 70 = .ok (.goto (-65), 3) := by decide +kernel
theorem dX11_fallingWith_73 : decode cX11_fallingWith 73 = .ok (.iload_n 3, 1) := by decide +kernel
theorem dX11_fallingWith_74 : decode cX11_fallingWith 74 = .ok (.ireturn, 1) := by decide +kernel
theorem dX11_fallingWith_8 : decode cX11_fallingWith 8 = .ok (.if_icmp .eq 65, 3) := by decide +kernel
theorem dX11_frees_0 : decode cX11_frees 0 = .ok (.aload_n 0, 1) := by decide +kernel
theorem dX11_frees_1 : decode cX11_frees 1 = .ok (.aload_n 0, 1) := by decide +kernel
theorem dX11_frees_10 : decode cX11_frees 10 = .ok (.iconst 1, 1) := by decide +kernel
theorem dX11_frees_11 : decode cX11_frees 11 = .ok (.goto 17, 3) := by decide +kernel
theorem dX11_frees_14 : decode cX11_frees 14 = .ok (.aload_n 0, 1) := by decide +kernel
theorem dX11_frees_15 : decode cX11_frees 15 = .ok (.iload_n 1, 1) := by decide +kernel
theorem dX11_frees_16 : decode cX11_frees 16 = .ok (.iconst 1, 1) := by decide +kernel
theorem dX11_frees_17 : decode cX11_frees 17 = .ok (.invokevirtual 283, 3) := by decide +kernel
theorem dX11_frees_2 : decode cX11_frees 2 = .ok (.iload_n 1, 1) := by decide +kernel
theorem dX11_frees_20 : decode cX11_frees 20 = .ok (.ifCond .eq 7, 3) := by decide +kernel
theorem dX11_frees_23 : decode cX11_frees 23 = .ok (.iconst 0, 1) := by decide +kernel
theorem dX11_frees_24 : decode cX11_frees 24 = .ok (.goto 4, 3) := by decide +kernel
theorem dX11_frees_27 : decode cX11_frees 27 = .ok (.iconst 2, 1) := by decide +kernel
theorem dX11_frees_28 : decode cX11_frees 28 = .ok (.putfield 70, 3) := by decide +kernel
theorem dX11_frees_3 : decode cX11_frees 3 = .ok (.i2l, 1) := by decide +kernel
theorem dX11_frees_31 : decode cX11_frees 31 = .ok (.aload_n 0, 1) := by decide +kernel
theorem dX11_frees_32 : decode cX11_frees 32 = .ok (.getfield 70, 3) := by decide +kernel
theorem dX11_frees_35 : decode cX11_frees 35 = .ok (.ifCond .le 7, 3) := by decide +kernel
theorem dX11_frees_38 : decode cX11_frees 38 = .ok (.iconst 0, 1) := by decide +kernel
theorem dX11_frees_39 : decode cX11_frees 39 = .ok (.goto 25, 3) := by decide +kernel
theorem dX11_frees_4 : decode cX11_frees 4 = .ok (.invokevirtual 363, 3) := by decide +kernel
theorem dX11_frees_42 : decode cX11_frees 42 = .ok (.aload_n 0, 1) := by decide +kernel
theorem dX11_frees_43 : decode cX11_frees 43 = .ok (.aload_n 0, 1) := by decide +kernel
theorem dX11_frees_44 : decode cX11_frees 44 = .ok (.getfield 9, 3) := by decide +kernel
theorem dX11_frees_47 : decode cX11_frees 47 = .ok (.bipush 16, 2) := by decide +kernel
theorem dX11_frees_49 : decode cX11_frees 49 = .ok (.iload_n 1, 1) := by decide +kernel
theorem dX11_frees_50 : decode cX11_frees 50 = .ok (.iadd, 1) := by decide +kernel
theorem dX11_frees_51 : decode cX11_frees 51 = .ok (.iaload, 1) := by decide +kernel
theorem dX11_frees_52 : decode cX11_frees 52 = .ok (.iconst 1, 1) := by decide +kernel
theorem dX11_frees_53 : decode cX11_frees 53 = .ok (.iload_n 1, 1) := by decide +kernel
theorem dX11_frees_54 : decode cX11_frees 54 = .ok (.ishl, 1) := by decide +kernel
theorem dX11_frees_55 : decode cX11_frees 55 = .ok (.invokevirtual 336, 3) := by decide +kernel
theorem dX11_frees_58 : decode cX11_frees 58 = .ok (.iconst 1, 1) := by decide +kernel
theorem dX11_frees_59 : decode cX11_frees 59 = .ok (.iload_n 1, 1) := by decide +kernel
theorem dX11_frees_60 : decode cX11_frees 60 = .ok (.ishl, 1) := by decide +kernel
theorem dX11_frees_61 : decode cX11_frees 61 = .ok (.iconst (-1), 1) := by decide +kernel
theorem dX11_frees_62 : decode cX11_frees 62 = .ok (.ixor, 1) := by decide +kernel
theorem dX11_frees_63 : decode cX11_frees 63 = .ok (.iand, 1) := by decide +kernel
theorem dX11_frees_64 : decode cX11_frees 64 = .ok (.ireturn, 1) := by decide +kernel
theorem dX11_frees_7 : decode cX11_frees 7 = .ok (.ifCond .ne 7, 3) := by decide +kernel
theorem dX11_quake_0 : decode cX11_quake 0 = .ok (.aload_n 0, 1) := by decide +kernel
theorem dX11_quake_1 : decode cX11_quake 1 = .ok (.iconst 0, 1) := by decide +kernel
theorem dX11_quake_10 : decode cX11_quake 10 = .ok (.invokevirtual 396, 3) := by decide +kernel
theorem dX11_quake_13 : decode cX11_quake 13 = .ok (.ireturn, 1) := by decide +kernel
theorem dX11_quake_2 : decode cX11_quake 2 = .ok (.putfield 70, 3) := by decide +kernel
theorem dX11_quake_5 : decode cX11_quake 5 = .ok (.aload_n 0, 1) := by decide +kernel
theorem dX11_quake_6 : decode cX11_quake 6 = .ok (.invokevirtual 383, 3) := by decide +kernel
theorem dX11_quake_9 : decode cX11_quake 9 = .ok (.aload_n 0, 1) := by decide +kernel
theorem dX11_quakes_0 : decode cX11_quakes 0 = .ok (.aload_n 0, 1) := by decide +kernel
theorem dX11_quakes_1 : decode cX11_quakes 1 = .ok (.iconst 0, 1) := by decide +kernel
theorem dX11_quakes_10 : decode cX11_quakes 10 = .ok (.aload_n 0, 1) := by decide +kernel
theorem dX11_quakes_11 : decode cX11_quakes 11 = .ok (.iconst 1, 1) := by decide +kernel
theorem dX11_quakes_12 : decode cX11_quakes 12 = .ok (.invokevirtual 351, 3) := by decide +kernel
theorem dX11_quakes_15 : decode cX11_quakes 15 = .ok (.aload_n 0, 1) := by decide +kernel
theorem dX11_quakes_16 : decode cX11_quakes 16 = .ok (.getfield 339, 3) := by decide +kernel
theorem dX11_quakes_19 : decode cX11_quakes 19 = .ok (.invokestatic 330, 3) := by decide +kernel
theorem dX11_quakes_2 : decode cX11_quakes 2 = .ok (.putfield 339, 3) := by decide +kernel
theorem dX11_quakes_22 : decode cX11_quakes 22 = .ok (.ireturn, 1) := by decide +kernel
theorem dX11_quakes_5 : decode cX11_quakes 5 = .ok (.aload_n 0, 1) := by decide +kernel
theorem dX11_quakes_6 : decode cX11_quakes 6 = .ok (.iconst 0, 1) := by decide +kernel
theorem dX11_quakes_7 : decode cX11_quakes 7 = .ok (.putfield 342, 3) := by decide +kernel
