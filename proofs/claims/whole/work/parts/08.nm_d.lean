theorem dX10_count_115 : decode cX10_count 115 = .ok (.invokevirtual 256, 3) := by decide +kernel
theorem dX10_count_118 : decode cX10_count 118 = .ok (.ireturn, 1) := by decide +kernel
theorem dX10_count_119 : decode cX10_count 119 = .ok (.aload_n 2, 1) := by decide +kernel
theorem dX10_count_120 : decode cX10_count 120 = .ok (.getfield 186, 3) := by decide +kernel
theorem dX10_count_123 : decode cX10_count 123 = .ok (.ireturn, 1) := by decide +kernel
theorem dX10_count_124 : decode cX10_count 124 = .ok (.aload_n 0, 1) := by decide +kernel
theorem dX10_count_125 : decode cX10_count 125 = .ok (.getfield 57, 3) := by decide +kernel
theorem dX10_count_128 : decode cX10_count 128 = .ok (.getfield 135, 3) := by decide +kernel
theorem dX10_count_131 : decode cX10_count 131 = .ok (.ireturn, 1) := by decide +kernel
theorem dX10_count_132 : decode cX10_count 132 = .ok (.aload_n 0, 1) := by decide +kernel
theorem dX10_count_133 : decode cX10_count 133 = .ok (.getfield 64, 3) := by decide +kernel
theorem dX10_count_136 : decode cX10_count 136 = .ok (.getfield 227, 3) := by decide +kernel
theorem dX10_count_139 : decode cX10_count 139 = .ok (.ireturn, 1) := by decide +kernel
theorem dX10_count_140 : decode cX10_count 140 = .ok (.aload_n 0, 1) := by decide +kernel
theorem dX10_count_141 : decode cX10_count 141 = .ok (.getfield 76, 3) := by decide +kernel
theorem dX10_count_144 : decode cX10_count 144 = .ok (.ireturn, 1) := by decide +kernel
theorem dX10_count_145 : decode cX10_count 145 = .ok (.aload_n 0, 1) := by decide +kernel
theorem dX10_count_146 : decode cX10_count 146 = .ok (.getfield 57, 3) := by decide +kernel
theorem dX10_count_149 : decode cX10_count 149 = .ok (.invokevirtual 259, 3) := by decide +kernel
theorem dX10_count_152 : decode cX10_count 152 = .ok (.ireturn, 1) := by decide +kernel
theorem dX10_count_153 : decode cX10_count 153 = .ok (.iconst (-1), 1) := by decide +kernel
theorem dX10_count_154 : decode cX10_count 154 = .ok (.ireturn, 1) := by decide +kernel
theorem dX10_anyTray_0 : decode cX10_anyTray 0 = .ok (.iload_n 1, 1) := by decide +kernel
theorem dX10_anyTray_1 : decode cX10_anyTray 1 = .ok (.ifCond .lt 8, 3) := by decide +kernel
theorem dX10_anyTray_4 : decode cX10_anyTray 4 = .ok (.iload_n 1, 1) := by decide +kernel
theorem dX10_anyTray_5 : decode cX10_anyTray 5 = .ok (.iconst 4, 1) := by decide +kernel
theorem dX10_anyTray_6 : decode cX10_anyTray 6 = .ok (.if_icmp .lt 14, 3) := by decide +kernel
theorem dX10_anyTray_9 : decode cX10_anyTray 9 = .ok (.new 181, 3) := by decide +kernel
theorem dX10_anyTray_12 : decode cX10_anyTray 12 = .ok (.dup, 1) := by decide +kernel
theorem dX10_anyTray_13 : decode cX10_anyTray 13 = .ok (.ldc_w 399, 3) := by decide +kernel
theorem dX10_anyTray_16 : decode cX10_anyTray 16 = .ok (.invokespecial 185, 3) := by decide +kernel
theorem dX10_anyTray_19 : decode cX10_anyTray 19 = .ok (.athrow, 1) := by decide +kernel
theorem dX10_anyTray_20 : decode cX10_anyTray 20 = .ok (.aload_n 0, 1) := by decide +kernel
theorem dX10_anyTray_21 : decode cX10_anyTray 21 = .ok (.getfield 32, 3) := by decide +kernel
theorem dX10_anyTray_24 : decode cX10_anyTray 24 = .ok (.iload_n 1, 1) := by decide +kernel
theorem dX10_anyTray_25 : decode cX10_anyTray 25 = .ok (.aaload, 1) := by decide +kernel
theorem dX10_anyTray_26 : decode cX10_anyTray 26 = .ok (.areturn, 1) := by decide +kernel
theorem dX10_filledTray_0 : decode cX10_filledTray 0 = .ok (.aload_n 0, 1) := by decide +kernel
theorem dX10_filledTray_1 : decode cX10_filledTray 1 = .ok (.iload_n 1, 1) := by decide +kernel
theorem dX10_filledTray_2 : decode cX10_filledTray 2 = .ok (.invokevirtual 373, 3) := by decide +kernel
theorem dX10_filledTray_5 : decode cX10_filledTray 5 = .ok (.astore_n 2, 1) := by decide +kernel
theorem dX10_filledTray_6 : decode cX10_filledTray 6 = .ok (.aload_n 2, 1) := by decide +kernel
theorem dX10_filledTray_7 : decode cX10_filledTray 7 = .ok (.getfield 401, 3) := by decide +kernel
theorem dX10_filledTray_10 : decode cX10_filledTray 10 = .ok (.iconst (-1), 1) := by decide +kernel
theorem dX10_filledTray_11 : decode cX10_filledTray 11 = .ok (.if_icmp .ne 14, 3) := by decide +kernel
theorem dX10_filledTray_14 : decode cX10_filledTray 14 = .ok (.new 307, 3) := by decide +kernel
theorem dX10_filledTray_17 : decode cX10_filledTray 17 = .ok (.dup, 1) := by decide +kernel
theorem dX10_filledTray_18 : decode cX10_filledTray 18 = .ok (.ldc_w 404, 3) := by decide +kernel
theorem dX10_filledTray_21 : decode cX10_filledTray 21 = .ok (.invokespecial 311, 3) := by decide +kernel
theorem dX10_filledTray_24 : decode cX10_filledTray 24 = .ok (.athrow, 1) := by decide +kernel
theorem dX10_filledTray_25 : decode cX10_filledTray 25 = .ok (.aload_n 2, 1) := by decide +kernel
theorem dX10_filledTray_26 : decode cX10_filledTray 26 = .ok (.areturn, 1) := by decide +kernel
theorem dX10_needImage_0 : decode cX10_needImage 0 = .ok (.iload_n 0, 1) := by decide +kernel
theorem dX10_needImage_1 : decode cX10_needImage 1 = .ok (.ifCond .lt 8, 3) := by decide +kernel
theorem dX10_needImage_4 : decode cX10_needImage 4 = .ok (.iload_n 0, 1) := by decide +kernel
theorem dX10_needImage_5 : decode cX10_needImage 5 = .ok (.iconst 3, 1) := by decide +kernel
theorem dX10_needImage_6 : decode cX10_needImage 6 = .ok (.if_icmp .lt 14, 3) := by decide +kernel
theorem dX10_needImage_9 : decode cX10_needImage 9 = .ok (.new 181, 3) := by decide +kernel
theorem dX10_needImage_12 : decode cX10_needImage 12 = .ok (.dup, 1) := by decide +kernel
theorem dX10_needImage_13 : decode cX10_needImage 13 = .ok (.ldc_w 406, 3) := by decide +kernel
theorem dX10_needImage_16 : decode cX10_needImage 16 = .ok (.invokespecial 185, 3) := by decide +kernel
theorem dX10_needImage_19 : decode cX10_needImage 19 = .ok (.athrow, 1) := by decide +kernel
theorem dX10_needImage_20 : decode cX10_needImage 20 = .ok (.return_, 1) := by decide +kernel
theorem dX11_init_0 : decode cX11_init 0 = .ok (.aload_n 0, 1) := by decide +kernel
theorem dX11_init_1 : decode cX11_init 1 = .ok (.invokespecial 1, 3) := by decide +kernel
theorem dX11_init_4 : decode cX11_init 4 = .ok (.aload_n 0, 1) := by decide +kernel
theorem dX11_init_5 : decode cX11_init 5 = .ok (.sipush 2260, 3) := by decide +kernel
theorem dX11_init_8 : decode cX11_init 8 = .ok (.newarray .int, 2) := by decide +kernel
theorem dX11_init_10 : decode cX11_init 10 = .ok (.putfield 9, 3) := by decide +kernel
theorem dX11_init_13 : decode cX11_init 13 = .ok (.aload_n 0, 1) := by decide +kernel
theorem dX11_init_14 : decode cX11_init 14 = .ok (.sipush 2260, 3) := by decide +kernel
theorem dX11_init_17 : decode cX11_init 17 = .ok (.newarray .int, 2) := by decide +kernel
theorem dX11_init_19 : decode cX11_init 19 = .ok (.putfield 13, 3) := by decide +kernel
theorem dX11_init_22 : decode cX11_init 22 = .ok (.aload_n 0, 1) := by decide +kernel
theorem dX11_init_23 : decode cX11_init 23 = .ok (.sipush 6780, 3) := by decide +kernel
theorem dX11_init_26 : decode cX11_init 26 = .ok (.newarray .int, 2) := by decide +kernel
theorem dX11_init_28 : decode cX11_init 28 = .ok (.putfield 16, 3) := by decide +kernel
theorem dX11_init_31 : decode cX11_init 31 = .ok (.aload_n 0, 1) := by decide +kernel
theorem dX11_init_32 : decode cX11_init 32 = .ok (.iconst 3, 1) := by decide +kernel
theorem dX11_init_33 : decode cX11_init 33 = .ok (.newarray .boolean, 2) := by decide +kernel
theorem dX11_init_35 : decode cX11_init 35 = .ok (.putfield 19, 3) := by decide +kernel
theorem dX11_init_38 : decode cX11_init 38 = .ok (.aload_n 0, 1) := by decide +kernel
theorem dX11_init_39 : decode cX11_init 39 = .ok (.sipush 900, 3) := by decide +kernel
theorem dX11_init_42 : decode cX11_init 42 = .ok (.newarray .int, 2) := by decide +kernel
theorem dX11_init_44 : decode cX11_init 44 = .ok (.putfield 23, 3) := by decide +kernel
theorem dX11_init_47 : decode cX11_init 47 = .ok (.aload_n 0, 1) := by decide +kernel
theorem dX11_init_48 : decode cX11_init 48 = .ok (.iconst (-1), 1) := by decide +kernel
theorem dX11_init_49 : decode cX11_init 49 = .ok (.putfield 26, 3) := by decide +kernel
theorem dX11_init_52 : decode cX11_init 52 = .ok (.aload_n 0, 1) := by decide +kernel
theorem dX11_init_53 : decode cX11_init 53 = .ok (.bipush 64, 2) := by decide +kernel
theorem dX11_init_55 : decode cX11_init 55 = .ok (.newarray .int, 2) := by decide +kernel
theorem dX11_init_57 : decode cX11_init 57 = .ok (.putfield 30, 3) := by decide +kernel
theorem dX11_init_60 : decode cX11_init 60 = .ok (.aload_n 0, 1) := by decide +kernel
theorem dX11_init_61 : decode cX11_init 61 = .ok (.bipush 6, 2) := by decide +kernel
theorem dX11_init_63 : decode cX11_init 63 = .ok (.newarray .int, 2) := by decide +kernel
theorem dX11_init_65 : decode cX11_init 65 = .ok (.putfield 33, 3) := by decide +kernel
theorem dX11_init_68 : decode cX11_init 68 = .ok (.aload_n 0, 1) := by decide +kernel
theorem dX11_init_69 : decode cX11_init 69 = .ok (.bipush 37, 2) := by decide +kernel
theorem dX11_init_71 : decode cX11_init 71 = .ok (.newarray .int, 2) := by decide +kernel
theorem dX11_init_73 : decode cX11_init 73 = .ok (.putfield 36, 3) := by decide +kernel
theorem dX11_init_76 : decode cX11_init 76 = .ok (.aload_n 0, 1) := by decide +kernel
theorem dX11_init_77 : decode cX11_init 77 = .ok (.bipush 61, 2) := by decide +kernel
theorem dX11_init_79 : decode cX11_init 79 = .ok (.newarray .int, 2) := by decide +kernel
theorem dX11_init_81 : decode cX11_init 81 = .ok (.putfield 39, 3) := by decide +kernel
theorem dX11_init_84 : decode cX11_init 84 = .ok (.aload_n 0, 1) := by decide +kernel
theorem dX11_init_85 : decode cX11_init 85 = .ok (.bipush 61, 2) := by decide +kernel
theorem dX11_init_87 : decode cX11_init 87 = .ok (.newarray .int, 2) := by decide +kernel
theorem dX11_init_89 : decode cX11_init 89 = .ok (.putfield 42, 3) := by decide +kernel
theorem dX11_init_92 : decode cX11_init 92 = .ok (.aload_n 0, 1) := by decide +kernel
theorem dX11_init_93 : decode cX11_init 93 = .ok (.bipush 61, 2) := by decide +kernel
theorem dX11_init_95 : decode cX11_init 95 = .ok (.newarray .int, 2) := by decide +kernel
theorem dX11_init_97 : decode cX11_init 97 = .ok (.putfield 45, 3) := by decide +kernel
theorem dX11_init_100 : decode cX11_init 100 = .ok (.aload_n 0, 1) := by decide +kernel
theorem dX11_init_101 : decode cX11_init 101 = .ok (.bipush 61, 2) := by decide +kernel
theorem dX11_init_103 : decode cX11_init 103 = .ok (.newarray .int, 2) := by decide +kernel
theorem dX11_init_105 : decode cX11_init 105 = .ok (.putfield 48, 3) := by decide +kernel
theorem dX11_init_108 : decode cX11_init 108 = .ok (.aload_n 0, 1) := by decide +kernel
theorem dX11_init_109 : decode cX11_init 109 = .ok (.bipush 61, 2) := by decide +kernel
theorem dX11_init_111 : decode cX11_init 111 = .ok (.newarray .int, 2) := by decide +kernel
theorem dX11_init_113 : decode cX11_init 113 = .ok (.putfield 51, 3) := by decide +kernel
theorem dX11_init_116 : decode cX11_init 116 = .ok (.aload_n 0, 1) := by decide +kernel
theorem dX11_init_117 : decode cX11_init 117 = .ok (.bipush 6, 2) := by decide +kernel
theorem dX11_init_119 : decode cX11_init 119 = .ok (.newarray .long, 2) := by decide +kernel
theorem dX11_init_121 : decode cX11_init 121 = .ok (.putfield 54, 3) := by decide +kernel
theorem dX11_init_124 : decode cX11_init 124 = .ok (.aload_n 0, 1) := by decide +kernel
theorem dX11_init_125 : decode cX11_init 125 = .ok (.bipush 6, 2) := by decide +kernel
theorem dX11_init_127 : decode cX11_init 127 = .ok (.newarray .long, 2) := by decide +kernel
theorem dX11_init_129 : decode cX11_init 129 = .ok (.putfield 58, 3) := by decide +kernel
theorem dX11_init_132 : decode cX11_init 132 = .ok (.aload_n 0, 1) := by decide +kernel
theorem dX11_init_133 : decode cX11_init 133 = .ok (.iconst 4, 1) := by decide +kernel
theorem dX11_init_134 : decode cX11_init 134 = .ok (.newarray .int, 2) := by decide +kernel
theorem dX11_init_136 : decode cX11_init 136 = .ok (.dup, 1) := by decide +kernel
theorem dX11_init_137 : decode cX11_init 137 = .ok (.iconst 0, 1) := by decide +kernel
theorem dX11_init_138 : decode cX11_init 138 = .ok (.iconst (-1), 1) := by decide +kernel
theorem dX11_init_139 : decode cX11_init 139 = .ok (.iastore, 1) := by decide +kernel
theorem dX11_init_140 : decode cX11_init 140 = .ok (.dup, 1) := by decide +kernel
theorem dX11_init_141 : decode cX11_init 141 = .ok (.iconst 1, 1) := by decide +kernel
theorem dX11_init_142 : decode cX11_init 142 = .ok (.iconst (-1), 1) := by decide +kernel
theorem dX11_init_143 : decode cX11_init 143 = .ok (.iastore, 1) := by decide +kernel
theorem dX11_init_144 : decode cX11_init 144 = .ok (.dup, 1) := by decide +kernel
theorem dX11_init_145 : decode cX11_init 145 = .ok (.iconst 2, 1) := by decide +kernel
theorem dX11_init_146 : decode cX11_init 146 = .ok (.iconst (-1), 1) := by decide +kernel
theorem dX11_init_147 : decode cX11_init 147 = .ok (.iastore, 1) := by decide +kernel
theorem dX11_init_148 : decode cX11_init 148 = .ok (.dup, 1) := by decide +kernel
theorem dX11_init_149 : decode cX11_init 149 = .ok (.iconst 3, 1) := by decide +kernel
theorem dX11_init_150 : decode cX11_init 150 = .ok (.iconst (-1), 1) := by decide +kernel
theorem dX11_init_151 : decode cX11_init 151 = .ok (.iastore, 1) := by decide +kernel
theorem dX11_init_152 : decode cX11_init 152 = .ok (.putfield 61, 3) := by decide +kernel
theorem dX11_init_155 : decode cX11_init 155 = .ok (.aload_n 0, 1) := by decide +kernel
theorem dX11_init_156 : decode cX11_init 156 = .ok (.iconst 4, 1) := by decide +kernel
theorem dX11_init_157 : decode cX11_init 157 = .ok (.newarray .int, 2) := by decide +kernel
theorem dX11_init_159 : decode cX11_init 159 = .ok (.putfield 64, 3) := by decide +kernel
theorem dX11_init_162 : decode cX11_init 162 = .ok (.aload_n 0, 1) := by decide +kernel
theorem dX11_init_163 : decode cX11_init 163 = .ok (.bipush 120, 2) := by decide +kernel
theorem dX11_init_165 : decode cX11_init 165 = .ok (.newarray .long, 2) := by decide +kernel
theorem dX11_init_167 : decode cX11_init 167 = .ok (.putfield 67, 3) := by decide +kernel
theorem dX11_init_170 : decode cX11_init 170 = .ok (.aload_n 0, 1) := by decide +kernel
theorem dX11_init_171 : decode cX11_init 171 = .ok (.getfield 9, 3) := by decide +kernel
theorem dX11_init_174 : decode cX11_init 174 = .ok (.iconst 1, 1) := by decide +kernel
theorem dX11_init_175 : decode cX11_init 175 = .ok (.iconst 1, 1) := by decide +kernel
theorem dX11_init_176 : decode cX11_init 176 = .ok (.iastore, 1) := by decide +kernel
theorem dX11_init_177 : decode cX11_init 177 = .ok (.aload_n 0, 1) := by decide +kernel
theorem dX11_init_178 : decode cX11_init 178 = .ok (.getfield 9, 3) := by decide +kernel
theorem dX11_init_181 : decode cX11_init 181 = .ok (.iconst 2, 1) := by decide +kernel
theorem dX11_init_182 : decode cX11_init 182 = .ok (.iconst 1, 1) := by decide +kernel
theorem dX11_init_183 : decode cX11_init 183 = .ok (.iastore, 1) := by decide +kernel
theorem dX11_init_184 : decode cX11_init 184 = .ok (.return_, 1) := by decide +kernel
theorem dX11_thrown_0 : decode cX11_thrown 0 = .ok (.aload_n 0, 1) := by decide +kernel
theorem dX11_thrown_1 : decode cX11_thrown 1 = .ok (.getfield 70, 3) := by decide +kernel
theorem dX11_thrown_4 : decode cX11_thrown 4 = .ok (.ireturn, 1) := by decide +kernel
theorem dX11_fails_0 : decode cX11_fails 0 = .ok (.aload_n 0, 1) := by decide +kernel
theorem dX11_fails_1 : decode cX11_fails 1 = .ok (.iload_n 1, 1) := by decide +kernel
theorem dX11_fails_2 : decode cX11_fails 2 = .ok (.putfield 70, 3) := by decide +kernel
theorem dX11_fails_5 : decode cX11_fails 5 = .ok (.iconst 0, 1) := by decide +kernel
theorem dX11_fails_6 : decode cX11_fails 6 = .ok (.ireturn, 1) := by decide +kernel
theorem dX11_within_0 : decode cX11_within 0 = .ok (.lload_n 0, 1) := by decide +kernel
theorem dX11_within_1 : decode cX11_within 1 = .ok (.lload_n 2, 1) := by decide +kernel
theorem dX11_within_2 : decode cX11_within 2 = .ok (.lcmp, 1) := by decide +kernel
theorem dX11_within_3 : decode cX11_within 3 = .ok (.ifCond .lt 14, 3) := by decide +kernel
theorem dX11_within_6 : decode cX11_within 6 = .ok (.lload_n 0, 1) := by decide +kernel
theorem dX11_within_7 : decode cX11_within 7 = .ok (.lload 4, 2) := by decide +kernel
theorem dX11_within_9 : decode cX11_within 9 = .ok (.lcmp, 1) := by decide +kernel
theorem dX11_within_10 : decode cX11_within 10 = .ok (.ifCond .gt 7, 3) := by decide +kernel
theorem dX11_within_13 : decode cX11_within 13 = .ok (.iconst 1, 1) := by decide +kernel
theorem dX11_within_14 : decode cX11_within 14 = .ok (.goto 4, 3) := by decide +kernel
theorem dX11_within_17 : decode cX11_within 17 = .ok (.iconst 0, 1) := by decide +kernel
theorem dX11_within_18 : decode cX11_within 18 = .ok (.ireturn, 1) := by decide +kernel
theorem dX11_has_0 : decode cX11_has 0 = .ok (.iload_n 0, 1) := by decide +kernel
theorem dX11_has_1 : decode cX11_has 1 = .ok (.iload_n 1, 1) := by decide +kernel
theorem dX11_has_2 : decode cX11_has 2 = .ok (.ishr, 1) := by decide +kernel
theorem dX11_has_3 : decode cX11_has 3 = .ok (.iconst 1, 1) := by decide +kernel
theorem dX11_has_4 : decode cX11_has 4 = .ok (.iand, 1) := by decide +kernel
theorem dX11_has_5 : decode cX11_has 5 = .ok (.iconst 1, 1) := by decide +kernel
theorem dX11_has_6 : decode cX11_has 6 = .ok (.if_icmp .ne 7, 3) := by decide +kernel
theorem dX11_has_9 : decode cX11_has 9 = .ok (.iconst 1, 1) := by decide +kernel
theorem dX11_has_10 : decode cX11_has 10 = .ok (.goto 4, 3) := by decide +kernel
theorem dX11_has_13 : decode cX11_has 13 = .ok (.iconst 0, 1) := by decide +kernel
theorem dX11_has_14 : decode cX11_has 14 = .ok (.ireturn, 1) := by decide +kernel
theorem dX11_size_0 : decode cX11_size 0 = .ok (.iconst 0, 1) := by decide +kernel
theorem dX11_size_1 : decode cX11_size 1 = .ok (.istore_n 1, 1) := by decide +kernel
theorem dX11_size_2 : decode cX11_size 2 = .ok (.iload_n 0, 1) := by decide +kernel
theorem dX11_size_3 : decode cX11_size 3 = .ok (.istore_n 2, 1) := by decide +kernel
theorem dX11_size_4 : decode cX11_size 4 = .ok (.iload_n 2, 1) := by decide +kernel
theorem dX11_size_5 : decode cX11_size 5 = .ok (.ifCond .eq 15, 3) := by decide +kernel
theorem dX11_size_8 : decode cX11_size 8 = .ok (.iinc 1 1, 3) := by decide +kernel
theorem dX11_size_11 : decode cX11_size 11 = .ok (.iload_n 2, 1) := by decide +kernel
theorem dX11_size_12 : decode cX11_size 12 = .ok (.iload_n 2, 1) := by decide +kernel
theorem dX11_size_13 : decode cX11_size 13 = .ok (.iconst 1, 1) := by decide +kernel
theorem dX11_size_14 : decode cX11_size 14 = .ok (.isub, 1) := by decide +kernel
theorem dX11_size_15 : decode cX11_size 15 = .ok (.iand, 1) := by decide +kernel
theorem dX11_size_16 : decode cX11_size 16 = .ok (.istore_n 2, 1) := by decide +kernel
theorem dX11_size_17 : decode cX11_size 17 = .ok (.goto (-13), 3) := by decide +kernel
theorem dX11_size_20 : decode cX11_size 20 = .ok (.iload_n 1, 1) := by decide +kernel
theorem dX11_size_21 : decode cX11_size 21 = .ok (.ireturn, 1) := by decide +kernel
theorem dX11_feed_0 : decode cX11_feed 0 = .ok (.aload_n 0, 1) := by decide +kernel
theorem dX11_feed_1 : decode cX11_feed 1 = .ok (.iconst 0, 1) := by decide +kernel
theorem dX11_feed_2 : decode cX11_feed 2 = .ok (.putfield 70, 3) := by decide +kernel
theorem dX11_feed_5 : decode cX11_feed 5 = .ok (.aload_n 0, 1) := by decide +kernel
theorem dX11_feed_6 : decode cX11_feed 6 = .ok (.getfield 73, 3) := by decide +kernel
theorem dX11_feed_9 : decode cX11_feed 9 = .ok (.bipush 20, 2) := by decide +kernel
theorem dX11_feed_11 : decode cX11_feed 11 = .ok (.iadd, 1) := by decide +kernel
theorem dX11_feed_12 : decode cX11_feed 12 = .ok (.sipush 900, 3) := by decide +kernel
theorem dX11_feed_15 : decode cX11_feed 15 = .ok (.if_icmp .le 5, 3) := by decide +kernel
theorem dX11_feed_18 : decode cX11_feed 18 = .ok (.iconst (-1), 1) := by decide +kernel
theorem dX11_feed_19 : decode cX11_feed 19 = .ok (.ireturn, 1) := by decide +kernel
theorem dX11_feed_20 : decode cX11_feed 20 = .ok (.iconst 0, 1) := by decide +kernel
theorem dX11_feed_21 : decode cX11_feed 21 = .ok (.istore 6, 2) := by decide +kernel
theorem dX11_feed_23 : decode cX11_feed 23 = .ok (.iload 6, 2) := by decide +kernel
theorem dX11_feed_25 : decode cX11_feed 25 = .ok (.bipush 20, 2) := by decide +kernel
theorem dX11_feed_27 : decode cX11_feed 27 = .ok (.if_icmp .ge 93, 3) := by decide +kernel
theorem dX11_feed_30 : decode cX11_feed 30 = .ok (.iload 6, 2) := by decide +kernel
theorem dX11_feed_32 : decode cX11_feed 32 = .ok (.iconst 4, 1) := by decide +kernel
theorem dX11_feed_33 : decode cX11_feed 33 = .ok (.if_icmp .ge 7, 3) := by decide +kernel
theorem dX11_feed_36 : decode cX11_feed 36 = .ok (.iload_n 1, 1) := by decide +kernel
theorem dX11_feed_37 : decode cX11_feed 37 = .ok (.goto 39, 3) := by decide +kernel
theorem dX11_feed_40 : decode cX11_feed 40 = .ok (.iload 6, 2) := by decide +kernel
theorem dX11_feed_42 : decode cX11_feed 42 = .ok (.bipush 8, 2) := by decide +kernel
theorem dX11_feed_44 : decode cX11_feed 44 = .ok (.if_icmp .ge 7, 3) := by decide +kernel
theorem dX11_feed_47 : decode cX11_feed 47 = .ok (.iload_n 2, 1) := by decide +kernel
theorem dX11_feed_48 : decode cX11_feed 48 = .ok (.goto 28, 3) := by decide +kernel
theorem dX11_feed_51 : decode cX11_feed 51 = .ok (.iload 6, 2) := by decide +kernel
theorem dX11_feed_53 : decode cX11_feed 53 = .ok (.bipush 12, 2) := by decide +kernel
theorem dX11_feed_55 : decode cX11_feed 55 = .ok (.if_icmp .ge 7, 3) := by decide +kernel
theorem dX11_feed_58 : decode cX11_feed 58 = .ok (.iload_n 3, 1) := by decide +kernel
theorem dX11_feed_59 : decode cX11_feed 59 = .ok (.goto 17, 3) := by decide +kernel
theorem dX11_feed_62 : decode cX11_feed 62 = .ok (.iload 6, 2) := by decide +kernel
theorem dX11_feed_64 : decode cX11_feed 64 = .ok (.bipush 16, 2) := by decide +kernel
theorem dX11_feed_66 : decode cX11_feed 66 = .ok (.if_icmp .ge 8, 3) := by decide +kernel
theorem dX11_feed_69 : decode cX11_feed 69 = .ok (.iload 4, 2) := by decide +kernel
theorem dX11_feed_71 : decode cX11_feed 71 = .ok (.goto 5, 3) := by decide +kernel
theorem dX11_feed_74 : decode cX11_feed 74 = .ok (.iload 5, 2) := by decide +kernel
theorem dX11_feed_76 : decode cX11_feed 76 = .ok (.istore 7, 2) := by decide +kernel
theorem dX11_feed_78 : decode cX11_feed 78 = .ok (.aload_n 0, 1) := by decide +kernel
theorem dX11_feed_79 : decode cX11_feed 79 = .ok (.getfield 23, 3) := by decide +kernel
theorem dX11_feed_82 : decode cX11_feed 82 = .ok (.aload_n 0, 1) := by decide +kernel
theorem dX11_feed_83 : decode cX11_feed 83 = .ok (.getfield 73, 3) := by decide +kernel
theorem dX11_feed_86 : decode cX11_feed 86 = .ok (.iload 7, 2) := by decide +kernel
theorem dX11_feed_88 : decode cX11_feed 88 = .ok (.bipush 24, 2) := by decide +kernel
theorem dX11_feed_90 : decode cX11_feed 90 = .ok (.bipush 8, 2) := by decide +kernel
theorem dX11_feed_92 : decode cX11_feed 92 = .ok (.iload 6, 2) := by decide +kernel
theorem dX11_feed_94 : decode cX11_feed 94 = .ok (.iconst 3, 1) := by decide +kernel
theorem dX11_feed_95 : decode cX11_feed 95 = .ok (.iand, 1) := by decide +kernel
theorem dX11_feed_96 : decode cX11_feed 96 = .ok (.imul, 1) := by decide +kernel
theorem dX11_feed_97 : decode cX11_feed 97 = .ok (.isub, 1) := by decide +kernel
theorem dX11_feed_98 : decode cX11_feed 98 = .ok (.iushr, 1) := by decide +kernel
theorem dX11_feed_99 : decode cX11_feed 99 = .ok (.sipush 255, 3) := by decide +kernel
theorem dX11_feed_102 : decode cX11_feed 102 = .ok (.iand, 1) := by decide +kernel
theorem dX11_feed_103 : decode cX11_feed 103 = .ok (.iastore, 1) := by decide +kernel
theorem dX11_feed_104 : decode cX11_feed 104 = .ok (.aload_n 0, 1) := by decide +kernel
theorem dX11_feed_105 : decode cX11_feed 105 = .ok (.dup, 1) := by decide +kernel
theorem dX11_feed_106 : decode cX11_feed 106 = .ok (.getfield 73, 3) := by decide +kernel
theorem dX11_feed_109 : decode cX11_feed 109 = .ok (.iconst 1, 1) := by decide +kernel
theorem dX11_feed_110 : decode cX11_feed 110 = .ok (.iadd, 1) := by decide +kernel
theorem dX11_feed_111 : decode cX11_feed 111 = .ok (.putfield 73, 3) := by decide +kernel
theorem dX11_feed_114 : decode cX11_feed 114 = .ok (.iinc 6 1, 3) := by decide +kernel
theorem dX11_feed_117 : decode cX11_feed 117 = .ok (.goto (-94), 3) := by decide +kernel
theorem dX11_feed_120 : decode cX11_feed 120 = .ok (.aload_n 0, 1) := by decide +kernel
theorem dX11_feed_121 : decode cX11_feed 121 = .ok (.getfield 73, 3) := by decide +kernel
theorem dX11_feed_124 : decode cX11_feed 124 = .ok (.ireturn, 1) := by decide +kernel
theorem dX11_see_0 : decode cX11_see 0 = .ok (.iload_n 1, 1) := by decide +kernel
theorem dX11_see_1 : decode cX11_see 1 = .ok (.aload_n 0, 1) := by decide +kernel
theorem dX11_see_2 : decode cX11_see 2 = .ok (.getfield 76, 3) := by decide +kernel
theorem dX11_see_5 : decode cX11_see 5 = .ok (.if_icmp .ge 12, 3) := by decide +kernel
theorem dX11_see_8 : decode cX11_see 8 = .ok (.aload_n 0, 1) := by decide +kernel
theorem dX11_see_9 : decode cX11_see 9 = .ok (.getfield 23, 3) := by decide +kernel
theorem dX11_see_12 : decode cX11_see 12 = .ok (.iload_n 1, 1) := by decide +kernel
theorem dX11_see_13 : decode cX11_see 13 = .ok (.iaload, 1) := by decide +kernel
theorem dX11_see_14 : decode cX11_see 14 = .ok (.goto 4, 3) := by decide +kernel
theorem dX11_see_17 : decode cX11_see 17 = .ok (.iconst 0, 1) := by decide +kernel
theorem dX11_see_18 : decode cX11_see 18 = .ok (.ireturn, 1) := by decide +kernel
theorem dX11_isLetter_0 : decode cX11_isLetter 0 = .ok (.iload_n 0, 1) := by decide +kernel
theorem dX11_isLetter_1 : decode cX11_isLetter 1 = .ok (.bipush 97, 2) := by decide +kernel
theorem dX11_isLetter_3 : decode cX11_isLetter 3 = .ok (.if_icmp .lt 13, 3) := by decide +kernel
theorem dX11_isLetter_6 : decode cX11_isLetter 6 = .ok (.iload_n 0, 1) := by decide +kernel
theorem dX11_isLetter_7 : decode cX11_isLetter 7 = .ok (.bipush 122, 2) := by decide +kernel
theorem dX11_isLetter_9 : decode cX11_isLetter 9 = .ok (.if_icmp .gt 7, 3) := by decide +kernel
theorem dX11_isLetter_12 : decode cX11_isLetter 12 = .ok (.iconst 1, 1) := by decide +kernel
theorem dX11_isLetter_13 : decode cX11_isLetter 13 = .ok (.goto 4, 3) := by decide +kernel
theorem dX11_isLetter_16 : decode cX11_isLetter 16 = .ok (.iconst 0, 1) := by decide +kernel
theorem dX11_isLetter_17 : decode cX11_isLetter 17 = .ok (.ireturn, 1) := by decide +kernel
theorem dX11_isDigit_0 : decode cX11_isDigit 0 = .ok (.iload_n 0, 1) := by decide +kernel
theorem dX11_isDigit_1 : decode cX11_isDigit 1 = .ok (.bipush 48, 2) := by decide +kernel
theorem dX11_isDigit_3 : decode cX11_isDigit 3 = .ok (.if_icmp .lt 13, 3) := by decide +kernel
theorem dX11_isDigit_6 : decode cX11_isDigit 6 = .ok (.iload_n 0, 1) := by decide +kernel
theorem dX11_isDigit_7 : decode cX11_isDigit 7 = .ok (.bipush 57, 2) := by decide +kernel
theorem dX11_isDigit_9 : decode cX11_isDigit 9 = .ok (.if_icmp .gt 7, 3) := by decide +kernel
theorem dX11_isDigit_12 : decode cX11_isDigit 12 = .ok (.iconst 1, 1) := by decide +kernel
theorem dX11_isDigit_13 : decode cX11_isDigit 13 = .ok (.goto 4, 3) := by decide +kernel
theorem dX11_isDigit_16 : decode cX11_isDigit 16 = .ok (.iconst 0, 1) := by decide +kernel
theorem dX11_isDigit_17 : decode cX11_isDigit 17 = .ok (.ireturn, 1) := by decide +kernel
theorem dX11_isSignByte_0 : decode cX11_isSignByte 0 = .ok (.iload_n 0, 1) := by decide +kernel
theorem dX11_isSignByte_1 : decode cX11_isSignByte 1 = .ok (.bipush 91, 2) := by decide +kernel
theorem dX11_isSignByte_3 : decode cX11_isSignByte 3 = .ok (.if_icmp .eq 33, 3) := by decide +kernel
theorem dX11_isSignByte_6 : decode cX11_isSignByte 6 = .ok (.iload_n 0, 1) := by decide +kernel
theorem dX11_isSignByte_7 : decode cX11_isSignByte 7 = .ok (.bipush 93, 2) := by decide +kernel
theorem dX11_isSignByte_9 : decode cX11_isSignByte 9 = .ok (.if_icmp .eq 27, 3) := by decide +kernel
theorem dX11_isSignByte_12 : decode cX11_isSignByte 12 = .ok (.iload_n 0, 1) := by decide +kernel
theorem dX11_isSignByte_13 : decode cX11_isSignByte 13 = .ok (.bipush 61, 2) := by decide +kernel
theorem dX11_isSignByte_15 : decode cX11_isSignByte 15 = .ok (.if_icmp .eq 21, 3) := by decide +kernel
theorem dX11_isSignByte_18 : decode cX11_isSignByte 18 = .ok (.iload_n 0, 1) := by decide +kernel
theorem dX11_isSignByte_19 : decode cX11_isSignByte 19 = .ok (.bipush 60, 2) := by decide +kernel
theorem dX11_isSignByte_21 : decode cX11_isSignByte 21 = .ok (.if_icmp .eq 15, 3) := by decide +kernel
theorem dX11_isSignByte_24 : decode cX11_isSignByte 24 = .ok (.iload_n 0, 1) := by decide +kernel
theorem dX11_isSignByte_25 : decode cX11_isSignByte 25 = .ok (.bipush 62, 2) := by decide +kernel
theorem dX11_isSignByte_27 : decode cX11_isSignByte 27 = .ok (.if_icmp .eq 9, 3) := by decide +kernel
theorem dX11_isSignByte_30 : decode cX11_isSignByte 30 = .ok (.iload_n 0, 1) := by decide +kernel
theorem dX11_isSignByte_31 : decode cX11_isSignByte 31 = .ok (.bipush 58, 2) := by decide +kernel
theorem dX11_isSignByte_33 : decode cX11_isSignByte 33 = .ok (.if_icmp .ne 7, 3) := by decide +kernel
theorem dX11_isSignByte_36 : decode cX11_isSignByte 36 = .ok (.iconst 1, 1) := by decide +kernel
theorem dX11_isSignByte_37 : decode cX11_isSignByte 37 = .ok (.goto 4, 3) := by decide +kernel
theorem dX11_isSignByte_40 : decode cX11_isSignByte 40 = .ok (.iconst 0, 1) := by decide +kernel
theorem dX11_isSignByte_41 : decode cX11_isSignByte 41 = .ok (.istore_n 1, 1) := by decide +kernel
theorem dX11_isSignByte_42 : decode cX11_isSignByte 42 = .ok (.iload_n 1, 1) := by decide +kernel
theorem dX11_isSignByte_43 : decode cX11_isSignByte 43 = .ok (.ifCond .ne 39, 3) := by decide +kernel
theorem dX11_isSignByte_46 : decode cX11_isSignByte 46 = .ok (.iload_n 0, 1) := by decide +kernel
theorem dX11_isSignByte_47 : decode cX11_isSignByte 47 = .ok (.bipush 59, 2) := by decide +kernel
theorem dX11_isSignByte_49 : decode cX11_isSignByte 49 = .ok (.if_icmp .eq 33, 3) := by decide +kernel
theorem dX11_isSignByte_52 : decode cX11_isSignByte 52 = .ok (.iload_n 0, 1) := by decide +kernel
theorem dX11_isSignByte_53 : decode cX11_isSignByte 53 = .ok (.bipush 43, 2) := by decide +kernel
theorem dX11_isSignByte_55 : decode cX11_isSignByte 55 = .ok (.if_icmp .eq 27, 3) := by decide +kernel
theorem dX11_isSignByte_58 : decode cX11_isSignByte 58 = .ok (.iload_n 0, 1) := by decide +kernel
theorem dX11_isSignByte_59 : decode cX11_isSignByte 59 = .ok (.bipush 45, 2) := by decide +kernel
theorem dX11_isSignByte_61 : decode cX11_isSignByte 61 = .ok (.if_icmp .eq 21, 3) := by decide +kernel
theorem dX11_isSignByte_64 : decode cX11_isSignByte 64 = .ok (.iload_n 0, 1) := by decide +kernel
theorem dX11_isSignByte_65 : decode cX11_isSignByte 65 = .ok (.bipush 42, 2) := by decide +kernel
theorem dX11_isSignByte_67 : decode cX11_isSignByte 67 = .ok (.if_icmp .eq 15, 3) := by decide +kernel
theorem dX11_isSignByte_70 : decode cX11_isSignByte 70 = .ok (.iload_n 0, 1) := by decide +kernel
theorem dX11_isSignByte_71 : decode cX11_isSignByte 71 = .ok (.bipush 40, 2) := by decide +kernel
theorem dX11_isSignByte_73 : decode cX11_isSignByte 73 = .ok (.if_icmp .eq 9, 3) := by decide +kernel
theorem dX11_isSignByte_76 : decode cX11_isSignByte 76 = .ok (.iload_n 0, 1) := by decide +kernel
theorem dX11_isSignByte_77 : decode cX11_isSignByte 77 = .ok (.bipush 41, 2) := by decide +kernel
theorem dX11_isSignByte_79 : decode cX11_isSignByte 79 = .ok (.if_icmp .ne 7, 3) := by decide +kernel
theorem dX11_isSignByte_82 : decode cX11_isSignByte 82 = .ok (.iconst 1, 1) := by decide +kernel
theorem dX11_isSignByte_83 : decode cX11_isSignByte 83 = .ok (.goto 4, 3) := by decide +kernel
theorem dX11_isSignByte_86 : decode cX11_isSignByte 86 = .ok (.iconst 0, 1) := by decide +kernel
theorem dX11_isSignByte_87 : decode cX11_isSignByte 87 = .ok (.ireturn, 1) := by decide +kernel
theorem dX11_readsOn_0 : decode cX11_readsOn 0 = .ok (.aload_n 0, 1) := by decide +kernel
theorem dX11_readsOn_1 : decode cX11_readsOn 1 = .ok (.getfield 79, 3) := by decide +kernel
theorem dX11_readsOn_4 : decode cX11_readsOn 4 = .ok (.aload_n 0, 1) := by decide +kernel
theorem dX11_readsOn_5 : decode cX11_readsOn 5 = .ok (.getfield 76, 3) := by decide +kernel
theorem dX11_readsOn_8 : decode cX11_readsOn 8 = .ok (.if_icmp .ge 44, 3) := by decide +kernel
theorem dX11_readsOn_11 : decode cX11_readsOn 11 = .ok (.aload_n 0, 1) := by decide +kernel
theorem dX11_readsOn_12 : decode cX11_readsOn 12 = .ok (.getfield 23, 3) := by decide +kernel
theorem dX11_readsOn_15 : decode cX11_readsOn 15 = .ok (.aload_n 0, 1) := by decide +kernel
theorem dX11_readsOn_16 : decode cX11_readsOn 16 = .ok (.getfield 79, 3) := by decide +kernel
theorem dX11_readsOn_19 : decode cX11_readsOn 19 = .ok (.iaload, 1) := by decide +kernel
theorem dX11_readsOn_20 : decode cX11_readsOn 20 = .ok (.bipush 32, 2) := by decide +kernel
theorem dX11_readsOn_22 : decode cX11_readsOn 22 = .ok (.if_icmp .eq 17, 3) := by decide +kernel
theorem dX11_readsOn_25 : decode cX11_readsOn 25 = .ok (.aload_n 0, 1) := by decide +kernel
theorem dX11_readsOn_26 : decode cX11_readsOn 26 = .ok (.getfield 23, 3) := by decide +kernel
theorem dX11_readsOn_29 : decode cX11_readsOn 29 = .ok (.aload_n 0, 1) := by decide +kernel
theorem dX11_readsOn_30 : decode cX11_readsOn 30 = .ok (.getfield 79, 3) := by decide +kernel
theorem dX11_readsOn_33 : decode cX11_readsOn 33 = .ok (.iaload, 1) := by decide +kernel
theorem dX11_readsOn_34 : decode cX11_readsOn 34 = .ok (.bipush 10, 2) := by decide +kernel
theorem dX11_readsOn_36 : decode cX11_readsOn 36 = .ok (.if_icmp .ne 16, 3) := by decide +kernel
theorem dX11_readsOn_39 : decode cX11_readsOn 39 = .ok (.aload_n 0, 1) := by decide +kernel
theorem dX11_readsOn_40 : decode cX11_readsOn 40 = .ok (.dup, 1) := by decide +kernel
theorem dX11_readsOn_41 : decode cX11_readsOn 41 = .ok (.getfield 79, 3) := by decide +kernel
theorem dX11_readsOn_44 : decode cX11_readsOn 44 = .ok (.iconst 1, 1) := by decide +kernel
theorem dX11_readsOn_45 : decode cX11_readsOn 45 = .ok (.iadd, 1) := by decide +kernel
theorem dX11_readsOn_46 : decode cX11_readsOn 46 = .ok (.putfield 79, 3) := by decide +kernel
theorem dX11_readsOn_49 : decode cX11_readsOn 49 = .ok (.goto (-49), 3) := by decide +kernel
theorem dX11_readsOn_52 : decode cX11_readsOn 52 = .ok (.aload_n 0, 1) := by decide +kernel
theorem dX11_readsOn_53 : decode cX11_readsOn 53 = .ok (.aload_n 0, 1) := by decide +kernel
theorem dX11_readsOn_54 : decode cX11_readsOn 54 = .ok (.getfield 79, 3) := by decide +kernel
theorem dX11_readsOn_57 : decode cX11_readsOn 57 = .ok (.putfield 82, 3) := by decide +kernel
theorem dX11_readsOn_60 : decode cX11_readsOn 60 = .ok (.aload_n 0, 1) := by decide +kernel
theorem dX11_readsOn_61 : decode cX11_readsOn 61 = .ok (.getfield 79, 3) := by decide +kernel
theorem dX11_readsOn_64 : decode cX11_readsOn 64 = .ok (.aload_n 0, 1) := by decide +kernel
theorem dX11_readsOn_65 : decode cX11_readsOn 65 = .ok (.getfield 76, 3) := by decide +kernel
theorem dX11_readsOn_68 : decode cX11_readsOn 68 = .ok (.if_icmp .lt 9, 3) := by decide +kernel
theorem dX11_readsOn_71 : decode cX11_readsOn 71 = .ok (.aload_n 0, 1) := by decide +kernel
theorem dX11_readsOn_72 : decode cX11_readsOn 72 = .ok (.iconst 0, 1) := by decide +kernel
theorem dX11_readsOn_73 : decode cX11_readsOn 73 = .ok (.putfield 85, 3) := by decide +kernel
theorem dX11_readsOn_76 : decode cX11_readsOn 76 = .ok (.return_, 1) := by decide +kernel
theorem dX11_readsOn_77 : decode cX11_readsOn 77 = .ok (.aload_n 0, 1) := by decide +kernel
theorem dX11_readsOn_78 : decode cX11_readsOn 78 = .ok (.getfield 23, 3) := by decide +kernel
theorem dX11_readsOn_81 : decode cX11_readsOn 81 = .ok (.aload_n 0, 1) := by decide +kernel
theorem dX11_readsOn_82 : decode cX11_readsOn 82 = .ok (.getfield 79, 3) := by decide +kernel
theorem dX11_readsOn_85 : decode cX11_readsOn 85 = .ok (.iaload, 1) := by decide +kernel
theorem dX11_readsOn_86 : decode cX11_readsOn 86 = .ok (.istore_n 1, 1) := by decide +kernel
theorem dX11_readsOn_87 : decode cX11_readsOn 87 = .ok (.iload_n 1, 1) := by decide +kernel
theorem dX11_readsOn_88 : decode cX11_readsOn 88 = .ok (.invokestatic 88, 3) := by decide +kernel
theorem dX11_readsOn_91 : decode cX11_readsOn 91 = .ok (.ifCond .eq 38, 3) := by decide +kernel
theorem dX11_readsOn_94 : decode cX11_readsOn 94 = .ok (.aload_n 0, 1) := by decide +kernel
theorem dX11_readsOn_95 : decode cX11_readsOn 95 = .ok (.aload_n 0, 1) := by decide +kernel
theorem dX11_readsOn_96 : decode cX11_readsOn 96 = .ok (.getfield 79, 3) := by decide +kernel
theorem dX11_readsOn_99 : decode cX11_readsOn 99 = .ok (.invokevirtual 92, 3) := by decide +kernel
theorem dX11_readsOn_102 : decode cX11_readsOn 102 = .ok (.invokestatic 88, 3) := by decide +kernel
theorem dX11_readsOn_105 : decode cX11_readsOn 105 = .ok (.ifCond .eq 16, 3) := by decide +kernel
theorem dX11_readsOn_108 : decode cX11_readsOn 108 = .ok (.aload_n 0, 1) := by decide +kernel
theorem dX11_readsOn_109 : decode cX11_readsOn 109 = .ok (.dup, 1) := by decide +kernel
theorem dX11_readsOn_110 : decode cX11_readsOn 110 = .ok (.getfield 79, 3) := by decide +kernel
theorem dX11_readsOn_113 : decode cX11_readsOn 113 = .ok (.iconst 1, 1) := by decide +kernel
theorem dX11_readsOn_114 : decode cX11_readsOn 114 = .ok (.iadd, 1) := by decide +kernel
theorem dX11_readsOn_115 : decode cX11_readsOn 115 = .ok (.putfield 79, 3) := by decide +kernel
theorem dX11_readsOn_118 : decode cX11_readsOn 118 = .ok (.goto (-24), 3) := by decide +kernel
theorem dX11_readsOn_121 : decode cX11_readsOn 121 = .ok (.aload_n 0, 1) := by decide +kernel
theorem dX11_readsOn_122 : decode cX11_readsOn 122 = .ok (.iconst 1, 1) := by decide +kernel
theorem dX11_readsOn_123 : decode cX11_readsOn 123 = .ok (.putfield 85, 3) := by decide +kernel
theorem dX11_readsOn_126 : decode cX11_readsOn 126 = .ok (.goto 137, 3) := by decide +kernel
theorem dX11_readsOn_129 : decode cX11_readsOn 129 = .ok (.iload_n 1, 1) := by decide +kernel
theorem dX11_readsOn_130 : decode cX11_readsOn 130 = .ok (.invokestatic 96, 3) := by decide +kernel
theorem dX11_readsOn_133 : decode cX11_readsOn 133 = .ok (.ifCond .eq 104, 3) := by decide +kernel
theorem dX11_readsOn_136 : decode cX11_readsOn 136 = .ok (.aload_n 0, 1) := by decide +kernel
theorem dX11_readsOn_137 : decode cX11_readsOn 137 = .ok (.iconst 0, 1) := by decide +kernel
theorem dX11_readsOn_138 : decode cX11_readsOn 138 = .ok (.putfield 99, 3) := by decide +kernel
theorem dX11_readsOn_141 : decode cX11_readsOn 141 = .ok (.aload_n 0, 1) := by decide +kernel
theorem dX11_readsOn_142 : decode cX11_readsOn 142 = .ok (.aload_n 0, 1) := by decide +kernel
theorem dX11_readsOn_143 : decode cX11_readsOn 143 = .ok (.getfield 79, 3) := by decide +kernel
theorem dX11_readsOn_146 : decode cX11_readsOn 146 = .ok (.invokevirtual 92, 3) := by decide +kernel
theorem dX11_readsOn_149 : decode cX11_readsOn 149 = .ok (.invokestatic 96, 3) := by decide +kernel
theorem dX11_readsOn_152 : decode cX11_readsOn 152 = .ok (.ifCond .eq 60, 3) := by decide +kernel
theorem dX11_readsOn_155 : decode cX11_readsOn 155 = .ok (.aload_n 0, 1) := by decide +kernel
theorem dX11_readsOn_156 : decode cX11_readsOn 156 = .ok (.aload_n 0, 1) := by decide +kernel
theorem dX11_readsOn_157 : decode cX11_readsOn 157 = .ok (.getfield 79, 3) := by decide +kernel
theorem dX11_readsOn_160 : decode cX11_readsOn 160 = .ok (.aload_n 0, 1) := by decide +kernel
theorem dX11_readsOn_161 : decode cX11_readsOn 161 = .ok (.getfield 82, 3) := by decide +kernel
theorem dX11_readsOn_164 : decode cX11_readsOn 164 = .ok (.isub, 1) := by decide +kernel
theorem dX11_readsOn_165 : decode cX11_readsOn 165 = .ok (.iconst 3, 1) := by decide +kernel
theorem dX11_readsOn_166 : decode cX11_readsOn 166 = .ok (.if_icmp .ge 26, 3) := by decide +kernel
theorem dX11_readsOn_169 : decode cX11_readsOn 169 = .ok (.bipush 10, 2) := by decide +kernel
theorem dX11_readsOn_171 : decode cX11_readsOn 171 = .ok (.aload_n 0, 1) := by decide +kernel
theorem dX11_readsOn_172 : decode cX11_readsOn 172 = .ok (.getfield 99, 3) := by decide +kernel
theorem dX11_readsOn_175 : decode cX11_readsOn 175 = .ok (.imul, 1) := by decide +kernel
theorem dX11_readsOn_176 : decode cX11_readsOn 176 = .ok (.aload_n 0, 1) := by decide +kernel
theorem dX11_readsOn_177 : decode cX11_readsOn 177 = .ok (.getfield 23, 3) := by decide +kernel
theorem dX11_readsOn_180 : decode cX11_readsOn 180 = .ok (.aload_n 0, 1) := by decide +kernel
theorem dX11_readsOn_181 : decode cX11_readsOn 181 = .ok (.getfield 79, 3) := by decide +kernel
theorem dX11_readsOn_184 : decode cX11_readsOn 184 = .ok (.iaload, 1) := by decide +kernel
theorem dX11_readsOn_185 : decode cX11_readsOn 185 = .ok (.iadd, 1) := by decide +kernel
theorem dX11_readsOn_186 : decode cX11_readsOn 186 = .ok (.bipush 48, 2) := by decide +kernel
theorem dX11_readsOn_188 : decode cX11_readsOn 188 = .ok (.isub, 1) := by decide +kernel
theorem dX11_readsOn_189 : decode cX11_readsOn 189 = .ok (.goto 7, 3) := by decide +kernel
theorem dX11_readsOn_192 : decode cX11_readsOn 192 = .ok (.aload_n 0, 1) := by decide +kernel
theorem dX11_readsOn_193 : decode cX11_readsOn 193 = .ok (.getfield 99, 3) := by decide +kernel
theorem dX11_readsOn_196 : decode cX11_readsOn 196 = .ok (.putfield 99, 3) := by decide +kernel
theorem dX11_readsOn_199 : decode cX11_readsOn 199 = .ok (.aload_n 0, 1) := by decide +kernel
theorem dX11_readsOn_200 : decode cX11_readsOn 200 = .ok (.dup, 1) := by decide +kernel
theorem dX11_readsOn_201 : decode cX11_readsOn 201 = .ok (.getfield 79, 3) := by decide +kernel
theorem dX11_readsOn_204 : decode cX11_readsOn 204 = .ok (.iconst 1, 1) := by decide +kernel
theorem dX11_readsOn_205 : decode cX11_readsOn 205 = .ok (.iadd, 1) := by decide +kernel
theorem dX11_readsOn_206 : decode cX11_readsOn 206 = .ok (.putfield 79, 3) := by decide +kernel
theorem dX11_readsOn_209 : decode cX11_readsOn 209 = .ok (.goto (-68), 3) := by decide +kernel
theorem dX11_readsOn_212 : decode cX11_readsOn 212 = .ok (.aload_n 0, 1) := by decide +kernel
theorem dX11_readsOn_213 : decode cX11_readsOn 213 = .ok (.aload_n 0, 1) := by decide +kernel
theorem dX11_readsOn_214 : decode cX11_readsOn 214 = .ok (.getfield 79, 3) := by decide +kernel
theorem dX11_readsOn_217 : decode cX11_readsOn 217 = .ok (.aload_n 0, 1) := by decide +kernel
theorem dX11_readsOn_218 : decode cX11_readsOn 218 = .ok (.getfield 82, 3) := by decide +kernel
theorem dX11_readsOn_221 : decode cX11_readsOn 221 = .ok (.isub, 1) := by decide +kernel
theorem dX11_readsOn_222 : decode cX11_readsOn 222 = .ok (.iconst 3, 1) := by decide +kernel
theorem dX11_readsOn_223 : decode cX11_readsOn 223 = .ok (.if_icmp .le 7, 3) := by decide +kernel
theorem dX11_readsOn_226 : decode cX11_readsOn 226 = .ok (.iconst 3, 1) := by decide +kernel
theorem dX11_readsOn_227 : decode cX11_readsOn 227 = .ok (.goto 4, 3) := by decide +kernel
theorem dX11_readsOn_230 : decode cX11_readsOn 230 = .ok (.iconst 2, 1) := by decide +kernel
theorem dX11_readsOn_231 : decode cX11_readsOn 231 = .ok (.putfield 85, 3) := by decide +kernel
theorem dX11_readsOn_234 : decode cX11_readsOn 234 = .ok (.goto 29, 3) := by decide +kernel
theorem dX11_readsOn_237 : decode cX11_readsOn 237 = .ok (.aload_n 0, 1) := by decide +kernel
theorem dX11_readsOn_238 : decode cX11_readsOn 238 = .ok (.iload_n 1, 1) := by decide +kernel
theorem dX11_readsOn_239 : decode cX11_readsOn 239 = .ok (.invokestatic 102, 3) := by decide +kernel
theorem dX11_readsOn_242 : decode cX11_readsOn 242 = .ok (.ifCond .eq 7, 3) := by decide +kernel
theorem dX11_readsOn_245 : decode cX11_readsOn 245 = .ok (.iload_n 1, 1) := by decide +kernel
theorem dX11_readsOn_246 : decode cX11_readsOn 246 = .ok (.goto 4, 3) := by decide +kernel
theorem dX11_readsOn_249 : decode cX11_readsOn 249 = .ok (.iconst 3, 1) := by decide +kernel
theorem dX11_readsOn_250 : decode cX11_readsOn 250 = .ok (.putfield 85, 3) := by decide +kernel
theorem dX11_readsOn_253 : decode cX11_readsOn 253 = .ok (.aload_n 0, 1) := by decide +kernel
theorem dX11_readsOn_254 : decode cX11_readsOn 254 = .ok (.dup, 1) := by decide +kernel
theorem dX11_readsOn_255 : decode cX11_readsOn 255 = .ok (.getfield 79, 3) := by decide +kernel
theorem dX11_readsOn_258 : decode cX11_readsOn 258 = .ok (.iconst 1, 1) := by decide +kernel
theorem dX11_readsOn_259 : decode cX11_readsOn 259 = .ok (.iadd, 1) := by decide +kernel
theorem dX11_readsOn_260 : decode cX11_readsOn 260 = .ok (.putfield 79, 3) := by decide +kernel
theorem dX11_readsOn_263 : decode cX11_readsOn 263 = .ok (.return_, 1) := by decide +kernel
theorem dX11_blames_0 : decode cX11_blames 0 = .ok (.aload_n 0, 1) := by decide +kernel
theorem dX11_blames_1 : decode cX11_blames 1 = .ok (.getfield 105, 3) := by decide +kernel
theorem dX11_blames_4 : decode cX11_blames 4 = .ok (.ifCond .eq 4, 3) := by decide +kernel
theorem dX11_blames_7 : decode cX11_blames 7 = .ok (.return_, 1) := by decide +kernel
theorem dX11_blames_8 : decode cX11_blames 8 = .ok (.aload_n 0, 1) := by decide +kernel
theorem dX11_blames_9 : decode cX11_blames 9 = .ok (.aload_n 0, 1) := by decide +kernel
theorem dX11_blames_10 : decode cX11_blames 10 = .ok (.getfield 85, 3) := by decide +kernel
theorem dX11_blames_13 : decode cX11_blames 13 = .ok (.iconst 3, 1) := by decide +kernel
theorem dX11_blames_14 : decode cX11_blames 14 = .ok (.if_icmp .ne 7, 3) := by decide +kernel
theorem dX11_blames_17 : decode cX11_blames 17 = .ok (.iconst 1, 1) := by decide +kernel
theorem dX11_blames_18 : decode cX11_blames 18 = .ok (.goto 4, 3) := by decide +kernel
theorem dX11_blames_21 : decode cX11_blames 21 = .ok (.iload_n 1, 1) := by decide +kernel
theorem dX11_blames_22 : decode cX11_blames 22 = .ok (.putfield 105, 3) := by decide +kernel
theorem dX11_blames_25 : decode cX11_blames 25 = .ok (.aload_n 0, 1) := by decide +kernel
theorem dX11_blames_26 : decode cX11_blames 26 = .ok (.aload_n 0, 1) := by decide +kernel
theorem dX11_blames_27 : decode cX11_blames 27 = .ok (.getfield 82, 3) := by decide +kernel
theorem dX11_blames_30 : decode cX11_blames 30 = .ok (.putfield 108, 3) := by decide +kernel
theorem dX11_blames_33 : decode cX11_blames 33 = .ok (.return_, 1) := by decide +kernel
theorem dX11_isWord_0 : decode cX11_isWord 0 = .ok (.aload_n 0, 1) := by decide +kernel
theorem dX11_isWord_1 : decode cX11_isWord 1 = .ok (.getfield 105, 3) := by decide +kernel
theorem dX11_isWord_4 : decode cX11_isWord 4 = .ok (.ifCond .ne 31, 3) := by decide +kernel
theorem dX11_isWord_7 : decode cX11_isWord 7 = .ok (.aload_n 0, 1) := by decide +kernel
theorem dX11_isWord_8 : decode cX11_isWord 8 = .ok (.getfield 85, 3) := by decide +kernel
theorem dX11_isWord_11 : decode cX11_isWord 11 = .ok (.iconst 1, 1) := by decide +kernel
theorem dX11_isWord_12 : decode cX11_isWord 12 = .ok (.if_icmp .ne 23, 3) := by decide +kernel
theorem dX11_isWord_15 : decode cX11_isWord 15 = .ok (.aload_n 0, 1) := by decide +kernel
theorem dX11_isWord_16 : decode cX11_isWord 16 = .ok (.getfield 79, 3) := by decide +kernel
theorem dX11_isWord_19 : decode cX11_isWord 19 = .ok (.aload_n 0, 1) := by decide +kernel
theorem dX11_isWord_20 : decode cX11_isWord 20 = .ok (.getfield 82, 3) := by decide +kernel
theorem dX11_isWord_23 : decode cX11_isWord 23 = .ok (.isub, 1) := by decide +kernel
theorem dX11_isWord_24 : decode cX11_isWord 24 = .ok (.aload_n 1, 1) := by decide +kernel
theorem dX11_isWord_25 : decode cX11_isWord 25 = .ok (.invokevirtual 111, 3) := by decide +kernel
theorem dX11_isWord_28 : decode cX11_isWord 28 = .ok (.if_icmp .ne 7, 3) := by decide +kernel
theorem dX11_isWord_31 : decode cX11_isWord 31 = .ok (.iconst 1, 1) := by decide +kernel
theorem dX11_isWord_32 : decode cX11_isWord 32 = .ok (.goto 4, 3) := by decide +kernel
theorem dX11_isWord_35 : decode cX11_isWord 35 = .ok (.iconst 0, 1) := by decide +kernel
theorem dX11_isWord_36 : decode cX11_isWord 36 = .ok (.istore_n 2, 1) := by decide +kernel
theorem dX11_isWord_37 : decode cX11_isWord 37 = .ok (.iconst 0, 1) := by decide +kernel
theorem dX11_isWord_38 : decode cX11_isWord 38 = .ok (.istore_n 3, 1) := by decide +kernel
theorem dX11_isWord_39 : decode cX11_isWord 39 = .ok (.iload_n 2, 1) := by decide +kernel
theorem dX11_isWord_40 : decode cX11_isWord 40 = .ok (.ifCond .eq 42, 3) := by decide +kernel
theorem dX11_isWord_43 : decode cX11_isWord 43 = .ok (.iload_n 3, 1) := by decide +kernel
theorem dX11_isWord_44 : decode cX11_isWord 44 = .ok (.aload_n 1, 1) := by decide +kernel
theorem dX11_isWord_45 : decode cX11_isWord 45 = .ok (.invokevirtual 111, 3) := by decide +kernel
theorem dX11_isWord_48 : decode cX11_isWord 48 = .ok (.if_icmp .ge 34, 3) := by decide +kernel
theorem dX11_isWord_51 : decode cX11_isWord 51 = .ok (.aload_n 0, 1) := by decide +kernel
theorem dX11_isWord_52 : decode cX11_isWord 52 = .ok (.getfield 23, 3) := by decide +kernel
theorem dX11_isWord_55 : decode cX11_isWord 55 = .ok (.aload_n 0, 1) := by decide +kernel
theorem dX11_isWord_56 : decode cX11_isWord 56 = .ok (.getfield 82, 3) := by decide +kernel
theorem dX11_isWord_59 : decode cX11_isWord 59 = .ok (.iload_n 3, 1) := by decide +kernel
theorem dX11_isWord_60 : decode cX11_isWord 60 = .ok (.iadd, 1) := by decide +kernel
theorem dX11_isWord_61 : decode cX11_isWord 61 = .ok (.iaload, 1) := by decide +kernel
theorem dX11_isWord_62 : decode cX11_isWord 62 = .ok (.aload_n 1, 1) := by decide +kernel
theorem dX11_isWord_63 : decode cX11_isWord 63 = .ok (.iload_n 3, 1) := by decide +kernel
theorem dX11_isWord_64 : decode cX11_isWord 64 = .ok (.invokevirtual 116, 3) := by decide +kernel
theorem dX11_isWord_67 : decode cX11_isWord 67 = .ok (.if_icmp .ne 7, 3) := by decide +kernel
theorem dX11_isWord_70 : decode cX11_isWord 70 = .ok (.iconst 1, 1) := by decide +kernel
theorem dX11_isWord_71 : decode cX11_isWord 71 = .ok (.goto 4, 3) := by decide +kernel
theorem dX11_isWord_74 : decode cX11_isWord 74 = .ok (.iconst 0, 1) := by decide +kernel
theorem dX11_isWord_75 : decode cX11_isWord 75 = .ok (.istore_n 2, 1) := by decide +kernel
theorem dX11_isWord_76 : decode cX11_isWord 76 = .ok (.iinc 3 1, 3) := by decide +kernel
theorem dX11_isWord_79 : decode cX11_isWord 79 = .ok (.goto (-40), 3) := by decide +kernel
theorem dX11_isWord_82 : decode cX11_isWord 82 = .ok (.iload_n 2, 1) := by decide +kernel
theorem dX11_isWord_83 : decode cX11_isWord 83 = .ok (.ireturn, 1) := by decide +kernel
theorem dX11_took_0 : decode cX11_took 0 = .ok (.aload_n 0, 1) := by decide +kernel
theorem dX11_took_1 : decode cX11_took 1 = .ok (.aload_n 1, 1) := by decide +kernel
theorem dX11_took_2 : decode cX11_took 2 = .ok (.invokevirtual 120, 3) := by decide +kernel
theorem dX11_took_5 : decode cX11_took 5 = .ok (.istore_n 2, 1) := by decide +kernel
theorem dX11_took_6 : decode cX11_took 6 = .ok (.iload_n 2, 1) := by decide +kernel
theorem dX11_took_7 : decode cX11_took 7 = .ok (.ifCond .eq 7, 3) := by decide +kernel
theorem dX11_took_10 : decode cX11_took 10 = .ok (.aload_n 0, 1) := by decide +kernel
theorem dX11_took_11 : decode cX11_took 11 = .ok (.invokevirtual 124, 3) := by decide +kernel
theorem dX11_took_14 : decode cX11_took 14 = .ok (.iload_n 2, 1) := by decide +kernel
theorem dX11_took_15 : decode cX11_took 15 = .ok (.ireturn, 1) := by decide +kernel
theorem dX11_isSign_0 : decode cX11_isSign 0 = .ok (.aload_n 0, 1) := by decide +kernel
theorem dX11_isSign_1 : decode cX11_isSign 1 = .ok (.getfield 105, 3) := by decide +kernel
theorem dX11_isSign_4 : decode cX11_isSign 4 = .ok (.ifCond .ne 15, 3) := by decide +kernel
theorem dX11_isSign_7 : decode cX11_isSign 7 = .ok (.aload_n 0, 1) := by decide +kernel
theorem dX11_isSign_8 : decode cX11_isSign 8 = .ok (.getfield 85, 3) := by decide +kernel
theorem dX11_isSign_11 : decode cX11_isSign 11 = .ok (.iload_n 1, 1) := by decide +kernel
theorem dX11_isSign_12 : decode cX11_isSign 12 = .ok (.if_icmp .ne 7, 3) := by decide +kernel
theorem dX11_isSign_15 : decode cX11_isSign 15 = .ok (.iconst 1, 1) := by decide +kernel
theorem dX11_isSign_16 : decode cX11_isSign 16 = .ok (.goto 4, 3) := by decide +kernel
theorem dX11_isSign_19 : decode cX11_isSign 19 = .ok (.iconst 0, 1) := by decide +kernel
theorem dX11_isSign_20 : decode cX11_isSign 20 = .ok (.ireturn, 1) := by decide +kernel
theorem dX11_mustSign_0 : decode cX11_mustSign 0 = .ok (.aload_n 0, 1) := by decide +kernel
theorem dX11_mustSign_1 : decode cX11_mustSign 1 = .ok (.getfield 85, 3) := by decide +kernel
theorem dX11_mustSign_4 : decode cX11_mustSign 4 = .ok (.iload_n 1, 1) := by decide +kernel
theorem dX11_mustSign_5 : decode cX11_mustSign 5 = .ok (.if_icmp .eq 8, 3) := by decide +kernel
theorem dX11_mustSign_8 : decode cX11_mustSign 8 = .ok (.aload_n 0, 1) := by decide +kernel
theorem dX11_mustSign_9 : decode cX11_mustSign 9 = .ok (.iconst 2, 1) := by decide +kernel
theorem dX11_mustSign_10 : decode cX11_mustSign 10 = .ok (.invokevirtual 127, 3) := by decide +kernel
theorem dX11_mustSign_13 : decode cX11_mustSign 13 = .ok (.aload_n 0, 1) := by decide +kernel
theorem dX11_mustSign_14 : decode cX11_mustSign 14 = .ok (.getfield 105, 3) := by decide +kernel
theorem dX11_mustSign_17 : decode cX11_mustSign 17 = .ok (.ifCond .ne 7, 3) := by decide +kernel
theorem dX11_mustSign_20 : decode cX11_mustSign 20 = .ok (.aload_n 0, 1) := by decide +kernel
theorem dX11_mustSign_21 : decode cX11_mustSign 21 = .ok (.invokevirtual 124, 3) := by decide +kernel
theorem dX11_mustSign_24 : decode cX11_mustSign 24 = .ok (.return_, 1) := by decide +kernel
theorem dX11_number_0 : decode cX11_number 0 = .ok (.aload_n 0, 1) := by decide +kernel
theorem dX11_number_1 : decode cX11_number 1 = .ok (.getfield 85, 3) := by decide +kernel
theorem dX11_number_4 : decode cX11_number 4 = .ok (.iconst 2, 1) := by decide +kernel
theorem dX11_number_5 : decode cX11_number 5 = .ok (.if_icmp .eq 11, 3) := by decide +kernel
theorem dX11_number_8 : decode cX11_number 8 = .ok (.aload_n 0, 1) := by decide +kernel
theorem dX11_number_9 : decode cX11_number 9 = .ok (.iconst 2, 1) := by decide +kernel
theorem dX11_number_10 : decode cX11_number 10 = .ok (.invokevirtual 127, 3) := by decide +kernel
theorem dX11_number_13 : decode cX11_number 13 = .ok (.goto 23, 3) := by decide +kernel
theorem dX11_number_16 : decode cX11_number 16 = .ok (.aload_n 0, 1) := by decide +kernel
theorem dX11_number_17 : decode cX11_number 17 = .ok (.getfield 99, 3) := by decide +kernel
theorem dX11_number_20 : decode cX11_number 20 = .ok (.i2l, 1) := by decide +kernel
theorem dX11_number_21 : decode cX11_number 21 = .ok (.iload_n 1, 1) := by decide +kernel
theorem dX11_number_22 : decode cX11_number 22 = .ok (.i2l, 1) := by decide +kernel
theorem dX11_number_23 : decode cX11_number 23 = .ok (.iload_n 2, 1) := by decide +kernel
theorem dX11_number_24 : decode cX11_number 24 = .ok (.i2l, 1) := by decide +kernel
theorem dX11_number_25 : decode cX11_number 25 = .ok (.invokestatic 131, 3) := by decide +kernel
theorem dX11_number_28 : decode cX11_number 28 = .ok (.ifCond .ne 8, 3) := by decide +kernel
theorem dX11_number_31 : decode cX11_number 31 = .ok (.aload_n 0, 1) := by decide +kernel
theorem dX11_number_32 : decode cX11_number 32 = .ok (.iconst 3, 1) := by decide +kernel
theorem dX11_number_33 : decode cX11_number 33 = .ok (.invokevirtual 127, 3) := by decide +kernel
theorem dX11_number_36 : decode cX11_number 36 = .ok (.aload_n 0, 1) := by decide +kernel
theorem dX11_number_37 : decode cX11_number 37 = .ok (.getfield 99, 3) := by decide +kernel
theorem dX11_number_40 : decode cX11_number 40 = .ok (.istore_n 3, 1) := by decide +kernel
theorem dX11_number_41 : decode cX11_number 41 = .ok (.aload_n 0, 1) := by decide +kernel
theorem dX11_number_42 : decode cX11_number 42 = .ok (.getfield 105, 3) := by decide +kernel
theorem dX11_number_45 : decode cX11_number 45 = .ok (.ifCond .ne 7, 3) := by decide +kernel
theorem dX11_number_48 : decode cX11_number 48 = .ok (.aload_n 0, 1) := by decide +kernel
theorem dX11_number_49 : decode cX11_number 49 = .ok (.invokevirtual 124, 3) := by decide +kernel
theorem dX11_number_52 : decode cX11_number 52 = .ok (.aload_n 0, 1) := by decide +kernel
theorem dX11_number_53 : decode cX11_number 53 = .ok (.getfield 105, 3) := by decide +kernel
theorem dX11_number_56 : decode cX11_number 56 = .ok (.ifCond .ne 7, 3) := by decide +kernel
theorem dX11_number_59 : decode cX11_number 59 = .ok (.iload_n 3, 1) := by decide +kernel
theorem dX11_number_60 : decode cX11_number 60 = .ok (.goto 4, 3) := by decide +kernel
theorem dX11_number_63 : decode cX11_number 63 = .ok (.iload_n 1, 1) := by decide +kernel
theorem dX11_number_64 : decode cX11_number 64 = .ok (.ireturn, 1) := by decide +kernel
theorem dX11_mustWord_0 : decode cX11_mustWord 0 = .ok (.aload_n 0, 1) := by decide +kernel
theorem dX11_mustWord_1 : decode cX11_mustWord 1 = .ok (.aload_n 1, 1) := by decide +kernel
theorem dX11_mustWord_2 : decode cX11_mustWord 2 = .ok (.invokevirtual 135, 3) := by decide +kernel
theorem dX11_mustWord_5 : decode cX11_mustWord 5 = .ok (.ifCond .ne 8, 3) := by decide +kernel
theorem dX11_mustWord_8 : decode cX11_mustWord 8 = .ok (.aload_n 0, 1) := by decide +kernel
theorem dX11_mustWord_9 : decode cX11_mustWord 9 = .ok (.iconst 2, 1) := by decide +kernel
theorem dX11_mustWord_10 : decode cX11_mustWord 10 = .ok (.invokevirtual 127, 3) := by decide +kernel
theorem dX11_mustWord_13 : decode cX11_mustWord 13 = .ok (.return_, 1) := by decide +kernel
theorem dX11_laysStep_0 : decode cX11_laysStep 0 = .ok (.aload_n 0, 1) := by decide +kernel
theorem dX11_laysStep_1 : decode cX11_laysStep 1 = .ok (.getfield 105, 3) := by decide +kernel
theorem dX11_laysStep_4 : decode cX11_laysStep 4 = .ok (.ifCond .eq 4, 3) := by decide +kernel
theorem dX11_laysStep_7 : decode cX11_laysStep 7 = .ok (.return_, 1) := by decide +kernel
theorem dX11_laysStep_8 : decode cX11_laysStep 8 = .ok (.aload_n 0, 1) := by decide +kernel
theorem dX11_laysStep_9 : decode cX11_laysStep 9 = .ok (.getfield 13, 3) := by decide +kernel
theorem dX11_laysStep_12 : decode cX11_laysStep 12 = .ok (.aload_n 0, 1) := by decide +kernel
theorem dX11_laysStep_13 : decode cX11_laysStep 13 = .ok (.getfield 138, 3) := by decide +kernel
theorem dX11_laysStep_16 : decode cX11_laysStep 16 = .ok (.aload_n 0, 1) := by decide +kernel
theorem dX11_laysStep_17 : decode cX11_laysStep 17 = .ok (.getfield 13, 3) := by decide +kernel
theorem dX11_laysStep_20 : decode cX11_laysStep 20 = .ok (.aload_n 0, 1) := by decide +kernel
theorem dX11_laysStep_21 : decode cX11_laysStep 21 = .ok (.getfield 141, 3) := by decide +kernel
theorem dX11_laysStep_24 : decode cX11_laysStep 24 = .ok (.iaload, 1) := by decide +kernel
theorem dX11_laysStep_25 : decode cX11_laysStep 25 = .ok (.iadd, 1) := by decide +kernel
theorem dX11_laysStep_26 : decode cX11_laysStep 26 = .ok (.iload_n 1, 1) := by decide +kernel
theorem dX11_laysStep_27 : decode cX11_laysStep 27 = .ok (.iastore, 1) := by decide +kernel
theorem dX11_laysStep_28 : decode cX11_laysStep 28 = .ok (.aload_n 0, 1) := by decide +kernel
theorem dX11_laysStep_29 : decode cX11_laysStep 29 = .ok (.getfield 13, 3) := by decide +kernel
theorem dX11_laysStep_32 : decode cX11_laysStep 32 = .ok (.aload_n 0, 1) := by decide +kernel
theorem dX11_laysStep_33 : decode cX11_laysStep 33 = .ok (.getfield 141, 3) := by decide +kernel
theorem dX11_laysStep_36 : decode cX11_laysStep 36 = .ok (.dup2, 1) := by decide +kernel
theorem dX11_laysStep_37 : decode cX11_laysStep 37 = .ok (.iaload, 1) := by decide +kernel
theorem dX11_laysStep_38 : decode cX11_laysStep 38 = .ok (.iconst 1, 1) := by decide +kernel
theorem dX11_laysStep_39 : decode cX11_laysStep 39 = .ok (.iadd, 1) := by decide +kernel
theorem dX11_laysStep_40 : decode cX11_laysStep 40 = .ok (.iastore, 1) := by decide +kernel
theorem dX11_laysStep_41 : decode cX11_laysStep 41 = .ok (.return_, 1) := by decide +kernel
theorem dX11_beginsLaw_0 : decode cX11_beginsLaw 0 = .ok (.aload_n 0, 1) := by decide +kernel
theorem dX11_beginsLaw_1 : decode cX11_beginsLaw 1 = .ok (.iload_n 1, 1) := by decide +kernel
theorem dX11_beginsLaw_2 : decode cX11_beginsLaw 2 = .ok (.putfield 141, 3) := by decide +kernel
theorem dX11_beginsLaw_5 : decode cX11_beginsLaw 5 = .ok (.aload_n 0, 1) := by decide +kernel
theorem dX11_beginsLaw_6 : decode cX11_beginsLaw 6 = .ok (.iload_n 2, 1) := by decide +kernel
theorem dX11_beginsLaw_7 : decode cX11_beginsLaw 7 = .ok (.putfield 138, 3) := by decide +kernel
theorem dX11_beginsLaw_10 : decode cX11_beginsLaw 10 = .ok (.aload_n 0, 1) := by decide +kernel
theorem dX11_beginsLaw_11 : decode cX11_beginsLaw 11 = .ok (.getfield 13, 3) := by decide +kernel
theorem dX11_beginsLaw_14 : decode cX11_beginsLaw 14 = .ok (.iload_n 1, 1) := by decide +kernel
theorem dX11_beginsLaw_15 : decode cX11_beginsLaw 15 = .ok (.iconst 0, 1) := by decide +kernel
theorem dX11_beginsLaw_16 : decode cX11_beginsLaw 16 = .ok (.iastore, 1) := by decide +kernel
theorem dX11_beginsLaw_17 : decode cX11_beginsLaw 17 = .ok (.return_, 1) := by decide +kernel
theorem dX11_goesIn_0 : decode cX11_goesIn 0 = .ok (.aload_n 0, 1) := by decide +kernel
theorem dX11_goesIn_1 : decode cX11_goesIn 1 = .ok (.getfield 144, 3) := by decide +kernel
theorem dX11_goesIn_4 : decode cX11_goesIn 4 = .ok (.bipush 6, 2) := by decide +kernel
theorem dX11_goesIn_6 : decode cX11_goesIn 6 = .ok (.if_icmp .ne 8, 3) := by decide +kernel
theorem dX11_goesIn_9 : decode cX11_goesIn 9 = .ok (.aload_n 0, 1) := by decide +kernel
theorem dX11_goesIn_10 : decode cX11_goesIn 10 = .ok (.iconst 4, 1) := by decide +kernel
theorem dX11_goesIn_11 : decode cX11_goesIn 11 = .ok (.invokevirtual 127, 3) := by decide +kernel
theorem dX11_goesIn_14 : decode cX11_goesIn 14 = .ok (.aload_n 0, 1) := by decide +kernel
theorem dX11_goesIn_15 : decode cX11_goesIn 15 = .ok (.dup, 1) := by decide +kernel
theorem dX11_goesIn_16 : decode cX11_goesIn 16 = .ok (.getfield 144, 3) := by decide +kernel
theorem dX11_goesIn_19 : decode cX11_goesIn 19 = .ok (.iconst 1, 1) := by decide +kernel
theorem dX11_goesIn_20 : decode cX11_goesIn 20 = .ok (.iadd, 1) := by decide +kernel
theorem dX11_goesIn_21 : decode cX11_goesIn 21 = .ok (.putfield 144, 3) := by decide +kernel
theorem dX11_goesIn_24 : decode cX11_goesIn 24 = .ok (.aload_n 0, 1) := by decide +kernel
theorem dX11_goesIn_25 : decode cX11_goesIn 25 = .ok (.getfield 105, 3) := by decide +kernel
theorem dX11_goesIn_28 : decode cX11_goesIn 28 = .ok (.ifCond .ne 7, 3) := by decide +kernel
theorem dX11_goesIn_31 : decode cX11_goesIn 31 = .ok (.aload_n 0, 1) := by decide +kernel
theorem dX11_goesIn_32 : decode cX11_goesIn 32 = .ok (.invokevirtual 124, 3) := by decide +kernel
theorem dX11_goesIn_35 : decode cX11_goesIn 35 = .ok (.return_, 1) := by decide +kernel
theorem dX11_readTruth_0 : decode cX11_readTruth 0 = .ok (.aload_n 0, 1) := by decide +kernel
theorem dX11_readTruth_1 : decode cX11_readTruth 1 = .ok (.invokevirtual 147, 3) := by decide +kernel
theorem dX11_readTruth_4 : decode cX11_readTruth 4 = .ok (.aload_n 0, 1) := by decide +kernel
theorem dX11_readTruth_5 : decode cX11_readTruth 5 = .ok (.ldc 150, 2) := by decide +kernel
theorem dX11_readTruth_7 : decode cX11_readTruth 7 = .ok (.invokevirtual 135, 3) := by decide +kernel
theorem dX11_readTruth_10 : decode cX11_readTruth 10 = .ok (.ifCond .eq 16, 3) := by decide +kernel
theorem dX11_readTruth_13 : decode cX11_readTruth 13 = .ok (.aload_n 0, 1) := by decide +kernel
theorem dX11_readTruth_14 : decode cX11_readTruth 14 = .ok (.invokevirtual 147, 3) := by decide +kernel
theorem dX11_readTruth_17 : decode cX11_readTruth 17 = .ok (.aload_n 0, 1) := by decide +kernel
theorem dX11_readTruth_18 : decode cX11_readTruth 18 = .ok (.bipush 17, 2) := by decide +kernel
theorem dX11_readTruth_20 : decode cX11_readTruth 20 = .ok (.invokevirtual 152, 3) := by decide +kernel
theorem dX11_readTruth_23 : decode cX11_readTruth 23 = .ok (.goto (-19), 3) := by decide +kernel
theorem dX11_readTruth_26 : decode cX11_readTruth 26 = .ok (.return_, 1) := by decide +kernel
theorem dX11_readBoth_0 : decode cX11_readBoth 0 = .ok (.aload_n 0, 1) := by decide +kernel
theorem dX11_readBoth_1 : decode cX11_readBoth 1 = .ok (.invokevirtual 155, 3) := by decide +kernel
theorem dX11_readBoth_4 : decode cX11_readBoth 4 = .ok (.aload_n 0, 1) := by decide +kernel
theorem dX11_readBoth_5 : decode cX11_readBoth 5 = .ok (.ldc 158, 2) := by decide +kernel
theorem dX11_readBoth_7 : decode cX11_readBoth 7 = .ok (.invokevirtual 135, 3) := by decide +kernel
theorem dX11_readBoth_10 : decode cX11_readBoth 10 = .ok (.ifCond .eq 16, 3) := by decide +kernel
theorem dX11_readBoth_13 : decode cX11_readBoth 13 = .ok (.aload_n 0, 1) := by decide +kernel
theorem dX11_readBoth_14 : decode cX11_readBoth 14 = .ok (.invokevirtual 155, 3) := by decide +kernel
theorem dX11_readBoth_17 : decode cX11_readBoth 17 = .ok (.aload_n 0, 1) := by decide +kernel
theorem dX11_readBoth_18 : decode cX11_readBoth 18 = .ok (.bipush 16, 2) := by decide +kernel
theorem dX11_readBoth_20 : decode cX11_readBoth 20 = .ok (.invokevirtual 152, 3) := by decide +kernel
theorem dX11_readBoth_23 : decode cX11_readBoth 23 = .ok (.goto (-19), 3) := by decide +kernel
theorem dX11_readBoth_26 : decode cX11_readBoth 26 = .ok (.return_, 1) := by decide +kernel
theorem dX11_readUnit_0 : decode cX11_readUnit 0 = .ok (.aload_n 0, 1) := by decide +kernel
theorem dX11_readUnit_1 : decode cX11_readUnit 1 = .ok (.getfield 105, 3) := by decide +kernel
theorem dX11_readUnit_4 : decode cX11_readUnit 4 = .ok (.ifCond .eq 4, 3) := by decide +kernel
theorem dX11_readUnit_7 : decode cX11_readUnit 7 = .ok (.return_, 1) := by decide +kernel
theorem dX11_readUnit_8 : decode cX11_readUnit 8 = .ok (.aload_n 0, 1) := by decide +kernel
theorem dX11_readUnit_9 : decode cX11_readUnit 9 = .ok (.ldc 160, 2) := by decide +kernel
theorem dX11_readUnit_11 : decode cX11_readUnit 11 = .ok (.invokevirtual 120, 3) := by decide +kernel
theorem dX11_readUnit_14 : decode cX11_readUnit 14 = .ok (.ifCond .eq 30, 3) := by decide +kernel
theorem dX11_readUnit_17 : decode cX11_readUnit 17 = .ok (.aload_n 0, 1) := by decide +kernel
theorem dX11_readUnit_18 : decode cX11_readUnit 18 = .ok (.invokevirtual 162, 3) := by decide +kernel
theorem dX11_readUnit_21 : decode cX11_readUnit 21 = .ok (.aload_n 0, 1) := by decide +kernel
theorem dX11_readUnit_22 : decode cX11_readUnit 22 = .ok (.invokevirtual 155, 3) := by decide +kernel
theorem dX11_readUnit_25 : decode cX11_readUnit 25 = .ok (.aload_n 0, 1) := by decide +kernel
theorem dX11_readUnit_26 : decode cX11_readUnit 26 = .ok (.bipush 18, 2) := by decide +kernel
theorem dX11_readUnit_28 : decode cX11_readUnit 28 = .ok (.invokevirtual 152, 3) := by decide +kernel
theorem dX11_readUnit_31 : decode cX11_readUnit 31 = .ok (.aload_n 0, 1) := by decide +kernel
theorem dX11_readUnit_32 : decode cX11_readUnit 32 = .ok (.dup, 1) := by decide +kernel
theorem dX11_readUnit_33 : decode cX11_readUnit 33 = .ok (.getfield 144, 3) := by decide +kernel
theorem dX11_readUnit_36 : decode cX11_readUnit 36 = .ok (.iconst 1, 1) := by decide +kernel
theorem dX11_readUnit_37 : decode cX11_readUnit 37 = .ok (.isub, 1) := by decide +kernel
theorem dX11_readUnit_38 : decode cX11_readUnit 38 = .ok (.putfield 144, 3) := by decide +kernel
theorem dX11_readUnit_41 : decode cX11_readUnit 41 = .ok (.goto 114, 3) := by decide +kernel
theorem dX11_readUnit_44 : decode cX11_readUnit 44 = .ok (.aload_n 0, 1) := by decide +kernel
theorem dX11_readUnit_45 : decode cX11_readUnit 45 = .ok (.bipush 91, 2) := by decide +kernel
theorem dX11_readUnit_47 : decode cX11_readUnit 47 = .ok (.invokevirtual 165, 3) := by decide +kernel
theorem dX11_readUnit_50 : decode cX11_readUnit 50 = .ok (.ifCond .eq 30, 3) := by decide +kernel
theorem dX11_readUnit_53 : decode cX11_readUnit 53 = .ok (.aload_n 0, 1) := by decide +kernel
theorem dX11_readUnit_54 : decode cX11_readUnit 54 = .ok (.invokevirtual 162, 3) := by decide +kernel
theorem dX11_readUnit_57 : decode cX11_readUnit 57 = .ok (.aload_n 0, 1) := by decide +kernel
theorem dX11_readUnit_58 : decode cX11_readUnit 58 = .ok (.invokevirtual 168, 3) := by decide +kernel
theorem dX11_readUnit_61 : decode cX11_readUnit 61 = .ok (.aload_n 0, 1) := by decide +kernel
theorem dX11_readUnit_62 : decode cX11_readUnit 62 = .ok (.bipush 93, 2) := by decide +kernel
theorem dX11_readUnit_64 : decode cX11_readUnit 64 = .ok (.invokevirtual 171, 3) := by decide +kernel
theorem dX11_readUnit_67 : decode cX11_readUnit 67 = .ok (.aload_n 0, 1) := by decide +kernel
theorem dX11_readUnit_68 : decode cX11_readUnit 68 = .ok (.dup, 1) := by decide +kernel
theorem dX11_readUnit_69 : decode cX11_readUnit 69 = .ok (.getfield 144, 3) := by decide +kernel
theorem dX11_readUnit_72 : decode cX11_readUnit 72 = .ok (.iconst 1, 1) := by decide +kernel
theorem dX11_readUnit_73 : decode cX11_readUnit 73 = .ok (.isub, 1) := by decide +kernel
theorem dX11_readUnit_74 : decode cX11_readUnit 74 = .ok (.putfield 144, 3) := by decide +kernel
theorem dX11_readUnit_77 : decode cX11_readUnit 77 = .ok (.goto 78, 3) := by decide +kernel
theorem dX11_readUnit_80 : decode cX11_readUnit 80 = .ok (.aload_n 0, 1) := by decide +kernel
theorem dX11_readUnit_81 : decode cX11_readUnit 81 = .ok (.invokevirtual 174, 3) := by decide +kernel
theorem dX11_readUnit_84 : decode cX11_readUnit 84 = .ok (.aload_n 0, 1) := by decide +kernel
theorem dX11_readUnit_85 : decode cX11_readUnit 85 = .ok (.getfield 85, 3) := by decide +kernel
theorem dX11_readUnit_88 : decode cX11_readUnit 88 = .ok (.istore_n 1, 1) := by decide +kernel
theorem dX11_readUnit_89 : decode cX11_readUnit 89 = .ok (.iload_n 1, 1) := by decide +kernel
theorem dX11_readUnit_90 : decode cX11_readUnit 90 = .ok (.bipush 61, 2) := by decide +kernel
theorem dX11_readUnit_92 : decode cX11_readUnit 92 = .ok (.if_icmp .eq 20, 3) := by decide +kernel
theorem dX11_readUnit_95 : decode cX11_readUnit 95 = .ok (.iload_n 1, 1) := by decide +kernel
theorem dX11_readUnit_96 : decode cX11_readUnit 96 = .ok (.bipush 60, 2) := by decide +kernel
theorem dX11_readUnit_98 : decode cX11_readUnit 98 = .ok (.if_icmp .eq 14, 3) := by decide +kernel
theorem dX11_readUnit_101 : decode cX11_readUnit 101 = .ok (.iload_n 1, 1) := by decide +kernel
theorem dX11_readUnit_102 : decode cX11_readUnit 102 = .ok (.bipush 62, 2) := by decide +kernel
theorem dX11_readUnit_104 : decode cX11_readUnit 104 = .ok (.if_icmp .eq 8, 3) := by decide +kernel
theorem dX11_readUnit_107 : decode cX11_readUnit 107 = .ok (.aload_n 0, 1) := by decide +kernel
theorem dX11_readUnit_108 : decode cX11_readUnit 108 = .ok (.iconst 2, 1) := by decide +kernel
theorem dX11_readUnit_109 : decode cX11_readUnit 109 = .ok (.invokevirtual 127, 3) := by decide +kernel
theorem dX11_readUnit_112 : decode cX11_readUnit 112 = .ok (.aload_n 0, 1) := by decide +kernel
theorem dX11_readUnit_113 : decode cX11_readUnit 113 = .ok (.getfield 105, 3) := by decide +kernel
theorem dX11_readUnit_116 : decode cX11_readUnit 116 = .ok (.ifCond .ne 7, 3) := by decide +kernel
theorem dX11_readUnit_119 : decode cX11_readUnit 119 = .ok (.aload_n 0, 1) := by decide +kernel
theorem dX11_readUnit_120 : decode cX11_readUnit 120 = .ok (.invokevirtual 124, 3) := by decide +kernel
theorem dX11_readUnit_123 : decode cX11_readUnit 123 = .ok (.aload_n 0, 1) := by decide +kernel
theorem dX11_readUnit_124 : decode cX11_readUnit 124 = .ok (.invokevirtual 174, 3) := by decide +kernel
theorem dX11_readUnit_127 : decode cX11_readUnit 127 = .ok (.aload_n 0, 1) := by decide +kernel
theorem dX11_readUnit_128 : decode cX11_readUnit 128 = .ok (.iload_n 1, 1) := by decide +kernel
theorem dX11_readUnit_129 : decode cX11_readUnit 129 = .ok (.bipush 61, 2) := by decide +kernel
theorem dX11_readUnit_131 : decode cX11_readUnit 131 = .ok (.if_icmp .ne 8, 3) := by decide +kernel
theorem dX11_readUnit_134 : decode cX11_readUnit 134 = .ok (.bipush 13, 2) := by decide +kernel
theorem dX11_readUnit_136 : decode cX11_readUnit 136 = .ok (.goto 16, 3) := by decide +kernel
theorem dX11_readUnit_139 : decode cX11_readUnit 139 = .ok (.iload_n 1, 1) := by decide +kernel
theorem dX11_readUnit_140 : decode cX11_readUnit 140 = .ok (.bipush 60, 2) := by decide +kernel
theorem dX11_readUnit_142 : decode cX11_readUnit 142 = .ok (.if_icmp .ne 8, 3) := by decide +kernel
theorem dX11_readUnit_145 : decode cX11_readUnit 145 = .ok (.bipush 14, 2) := by decide +kernel
theorem dX11_readUnit_147 : decode cX11_readUnit 147 = .ok (.goto 5, 3) := by decide +kernel
theorem dX11_readUnit_150 : decode cX11_readUnit 150 = .ok (.bipush 15, 2) := by decide +kernel
theorem dX11_readUnit_152 : decode cX11_readUnit 152 = .ok (.invokevirtual 152, 3) := by decide +kernel
theorem dX11_readUnit_155 : decode cX11_readUnit 155 = .ok (.return_, 1) := by decide +kernel
theorem dX11_readSum_0 : decode cX11_readSum 0 = .ok (.aload_n 0, 1) := by decide +kernel
theorem dX11_readSum_1 : decode cX11_readSum 1 = .ok (.invokevirtual 177, 3) := by decide +kernel
theorem dX11_readSum_4 : decode cX11_readSum 4 = .ok (.aload_n 0, 1) := by decide +kernel
theorem dX11_readSum_5 : decode cX11_readSum 5 = .ok (.bipush 43, 2) := by decide +kernel
theorem dX11_readSum_7 : decode cX11_readSum 7 = .ok (.invokevirtual 165, 3) := by decide +kernel
theorem dX11_readSum_10 : decode cX11_readSum 10 = .ok (.ifCond .ne 12, 3) := by decide +kernel
theorem dX11_readSum_13 : decode cX11_readSum 13 = .ok (.aload_n 0, 1) := by decide +kernel
theorem dX11_readSum_14 : decode cX11_readSum 14 = .ok (.bipush 45, 2) := by decide +kernel
theorem dX11_readSum_16 : decode cX11_readSum 16 = .ok (.invokevirtual 165, 3) := by decide +kernel
theorem dX11_readSum_19 : decode cX11_readSum 19 = .ok (.ifCond .eq 36, 3) := by decide +kernel
theorem dX11_readSum_22 : decode cX11_readSum 22 = .ok (.aload_n 0, 1) := by decide +kernel
theorem dX11_readSum_23 : decode cX11_readSum 23 = .ok (.getfield 85, 3) := by decide +kernel
theorem dX11_readSum_26 : decode cX11_readSum 26 = .ok (.istore_n 1, 1) := by decide +kernel
theorem dX11_readSum_27 : decode cX11_readSum 27 = .ok (.aload_n 0, 1) := by decide +kernel
theorem dX11_readSum_28 : decode cX11_readSum 28 = .ok (.invokevirtual 124, 3) := by decide +kernel
theorem dX11_readSum_31 : decode cX11_readSum 31 = .ok (.aload_n 0, 1) := by decide +kernel
theorem dX11_readSum_32 : decode cX11_readSum 32 = .ok (.invokevirtual 177, 3) := by decide +kernel
theorem dX11_readSum_35 : decode cX11_readSum 35 = .ok (.aload_n 0, 1) := by decide +kernel
theorem dX11_readSum_36 : decode cX11_readSum 36 = .ok (.iload_n 1, 1) := by decide +kernel
theorem dX11_readSum_37 : decode cX11_readSum 37 = .ok (.bipush 43, 2) := by decide +kernel
theorem dX11_readSum_39 : decode cX11_readSum 39 = .ok (.if_icmp .ne 8, 3) := by decide +kernel
theorem dX11_readSum_42 : decode cX11_readSum 42 = .ok (.bipush 10, 2) := by decide +kernel
theorem dX11_readSum_44 : decode cX11_readSum 44 = .ok (.goto 5, 3) := by decide +kernel
theorem dX11_readSum_47 : decode cX11_readSum 47 = .ok (.bipush 11, 2) := by decide +kernel
theorem dX11_readSum_49 : decode cX11_readSum 49 = .ok (.invokevirtual 152, 3) := by decide +kernel
theorem dX11_readSum_52 : decode cX11_readSum 52 = .ok (.goto (-48), 3) := by decide +kernel
theorem dX11_readSum_55 : decode cX11_readSum 55 = .ok (.return_, 1) := by decide +kernel
theorem dX11_readTerm_0 : decode cX11_readTerm 0 = .ok (.aload_n 0, 1) := by decide +kernel
theorem dX11_readTerm_1 : decode cX11_readTerm 1 = .ok (.invokevirtual 180, 3) := by decide +kernel
theorem dX11_readTerm_4 : decode cX11_readTerm 4 = .ok (.aload_n 0, 1) := by decide +kernel
theorem dX11_readTerm_5 : decode cX11_readTerm 5 = .ok (.bipush 42, 2) := by decide +kernel
theorem dX11_readTerm_7 : decode cX11_readTerm 7 = .ok (.invokevirtual 165, 3) := by decide +kernel
theorem dX11_readTerm_10 : decode cX11_readTerm 10 = .ok (.ifCond .eq 20, 3) := by decide +kernel
theorem dX11_readTerm_13 : decode cX11_readTerm 13 = .ok (.aload_n 0, 1) := by decide +kernel
theorem dX11_readTerm_14 : decode cX11_readTerm 14 = .ok (.invokevirtual 124, 3) := by decide +kernel
theorem dX11_readTerm_17 : decode cX11_readTerm 17 = .ok (.aload_n 0, 1) := by decide +kernel
theorem dX11_readTerm_18 : decode cX11_readTerm 18 = .ok (.invokevirtual 180, 3) := by decide +kernel
theorem dX11_readTerm_21 : decode cX11_readTerm 21 = .ok (.aload_n 0, 1) := by decide +kernel
theorem dX11_readTerm_22 : decode cX11_readTerm 22 = .ok (.bipush 12, 2) := by decide +kernel
theorem dX11_readTerm_24 : decode cX11_readTerm 24 = .ok (.invokevirtual 152, 3) := by decide +kernel
theorem dX11_readTerm_27 : decode cX11_readTerm 27 = .ok (.goto (-23), 3) := by decide +kernel
theorem dX11_readTerm_30 : decode cX11_readTerm 30 = .ok (.return_, 1) := by decide +kernel
theorem dX11_hangWord_0 : decode cX11_hangWord 0 = .ok (.aload_n 0, 1) := by decide +kernel
theorem dX11_hangWord_1 : decode cX11_hangWord 1 = .ok (.ldc 183, 2) := by decide +kernel
theorem dX11_hangWord_3 : decode cX11_hangWord 3 = .ok (.invokevirtual 135, 3) := by decide +kernel
theorem dX11_hangWord_6 : decode cX11_hangWord 6 = .ok (.ifCond .eq 5, 3) := by decide +kernel
theorem dX11_hangWord_9 : decode cX11_hangWord 9 = .ok (.iconst 0, 1) := by decide +kernel
theorem dX11_hangWord_10 : decode cX11_hangWord 10 = .ok (.ireturn, 1) := by decide +kernel
theorem dX11_hangWord_11 : decode cX11_hangWord 11 = .ok (.aload_n 0, 1) := by decide +kernel
theorem dX11_hangWord_12 : decode cX11_hangWord 12 = .ok (.ldc 185, 2) := by decide +kernel
theorem dX11_hangWord_14 : decode cX11_hangWord 14 = .ok (.invokevirtual 135, 3) := by decide +kernel
theorem dX11_hangWord_17 : decode cX11_hangWord 17 = .ok (.ifCond .eq 5, 3) := by decide +kernel
theorem dX11_hangWord_20 : decode cX11_hangWord 20 = .ok (.iconst 1, 1) := by decide +kernel
theorem dX11_hangWord_21 : decode cX11_hangWord 21 = .ok (.ireturn, 1) := by decide +kernel
theorem dX11_hangWord_22 : decode cX11_hangWord 22 = .ok (.aload_n 0, 1) := by decide +kernel
theorem dX11_hangWord_23 : decode cX11_hangWord 23 = .ok (.ldc 187, 2) := by decide +kernel
theorem dX11_hangWord_25 : decode cX11_hangWord 25 = .ok (.invokevirtual 135, 3) := by decide +kernel
theorem dX11_hangWord_28 : decode cX11_hangWord 28 = .ok (.ifCond .eq 5, 3) := by decide +kernel
theorem dX11_hangWord_31 : decode cX11_hangWord 31 = .ok (.iconst 2, 1) := by decide +kernel
theorem dX11_hangWord_32 : decode cX11_hangWord 32 = .ok (.ireturn, 1) := by decide +kernel
theorem dX11_hangWord_33 : decode cX11_hangWord 33 = .ok (.aload_n 0, 1) := by decide +kernel
theorem dX11_hangWord_34 : decode cX11_hangWord 34 = .ok (.ldc 189, 2) := by decide +kernel
theorem dX11_hangWord_36 : decode cX11_hangWord 36 = .ok (.invokevirtual 135, 3) := by decide +kernel
theorem dX11_hangWord_39 : decode cX11_hangWord 39 = .ok (.ifCond .eq 5, 3) := by decide +kernel
theorem dX11_hangWord_42 : decode cX11_hangWord 42 = .ok (.iconst 3, 1) := by decide +kernel
theorem dX11_hangWord_43 : decode cX11_hangWord 43 = .ok (.ireturn, 1) := by decide +kernel
theorem dX11_hangWord_44 : decode cX11_hangWord 44 = .ok (.aload_n 0, 1) := by decide +kernel
theorem dX11_hangWord_45 : decode cX11_hangWord 45 = .ok (.ldc 191, 2) := by decide +kernel
theorem dX11_hangWord_47 : decode cX11_hangWord 47 = .ok (.invokevirtual 135, 3) := by decide +kernel
theorem dX11_hangWord_50 : decode cX11_hangWord 50 = .ok (.ifCond .eq 5, 3) := by decide +kernel
theorem dX11_hangWord_53 : decode cX11_hangWord 53 = .ok (.iconst 4, 1) := by decide +kernel
theorem dX11_hangWord_54 : decode cX11_hangWord 54 = .ok (.ireturn, 1) := by decide +kernel
theorem dX11_hangWord_55 : decode cX11_hangWord 55 = .ok (.aload_n 0, 1) := by decide +kernel
theorem dX11_hangWord_56 : decode cX11_hangWord 56 = .ok (.ldc 193, 2) := by decide +kernel
theorem dX11_hangWord_58 : decode cX11_hangWord 58 = .ok (.invokevirtual 135, 3) := by decide +kernel
theorem dX11_hangWord_61 : decode cX11_hangWord 61 = .ok (.ifCond .eq 7, 3) := by decide +kernel
theorem dX11_hangWord_64 : decode cX11_hangWord 64 = .ok (.iconst 5, 1) := by decide +kernel
theorem dX11_hangWord_65 : decode cX11_hangWord 65 = .ok (.goto 4, 3) := by decide +kernel
theorem dX11_hangWord_68 : decode cX11_hangWord 68 = .ok (.iconst (-1), 1) := by decide +kernel
theorem dX11_hangWord_69 : decode cX11_hangWord 69 = .ok (.ireturn, 1) := by decide +kernel
theorem dX11_freeWord_0 : decode cX11_freeWord 0 = .ok (.aload_n 0, 1) := by decide +kernel
theorem dX11_freeWord_1 : decode cX11_freeWord 1 = .ok (.ldc 195, 2) := by decide +kernel
theorem dX11_freeWord_3 : decode cX11_freeWord 3 = .ok (.invokevirtual 135, 3) := by decide +kernel
theorem dX11_freeWord_6 : decode cX11_freeWord 6 = .ok (.ifCond .eq 5, 3) := by decide +kernel
theorem dX11_freeWord_9 : decode cX11_freeWord 9 = .ok (.iconst 0, 1) := by decide +kernel
theorem dX11_freeWord_10 : decode cX11_freeWord 10 = .ok (.ireturn, 1) := by decide +kernel
theorem dX11_freeWord_11 : decode cX11_freeWord 11 = .ok (.aload_n 0, 1) := by decide +kernel
theorem dX11_freeWord_12 : decode cX11_freeWord 12 = .ok (.ldc 197, 2) := by decide +kernel
theorem dX11_freeWord_14 : decode cX11_freeWord 14 = .ok (.invokevirtual 135, 3) := by decide +kernel
theorem dX11_freeWord_17 : decode cX11_freeWord 17 = .ok (.ifCond .eq 5, 3) := by decide +kernel
theorem dX11_freeWord_20 : decode cX11_freeWord 20 = .ok (.iconst 1, 1) := by decide +kernel
theorem dX11_freeWord_21 : decode cX11_freeWord 21 = .ok (.ireturn, 1) := by decide +kernel
theorem dX11_freeWord_22 : decode cX11_freeWord 22 = .ok (.aload_n 0, 1) := by decide +kernel
theorem dX11_freeWord_23 : decode cX11_freeWord 23 = .ok (.ldc 199, 2) := by decide +kernel
theorem dX11_freeWord_25 : decode cX11_freeWord 25 = .ok (.invokevirtual 135, 3) := by decide +kernel
theorem dX11_freeWord_28 : decode cX11_freeWord 28 = .ok (.ifCond .eq 5, 3) := by decide +kernel
theorem dX11_freeWord_31 : decode cX11_freeWord 31 = .ok (.iconst 2, 1) := by decide +kernel
theorem dX11_freeWord_32 : decode cX11_freeWord 32 = .ok (.ireturn, 1) := by decide +kernel
theorem dX11_freeWord_33 : decode cX11_freeWord 33 = .ok (.aload_n 0, 1) := by decide +kernel
theorem dX11_freeWord_34 : decode cX11_freeWord 34 = .ok (.ldc 201, 2) := by decide +kernel
theorem dX11_freeWord_36 : decode cX11_freeWord 36 = .ok (.invokevirtual 135, 3) := by decide +kernel
theorem dX11_freeWord_39 : decode cX11_freeWord 39 = .ok (.ifCond .eq 5, 3) := by decide +kernel
theorem dX11_freeWord_42 : decode cX11_freeWord 42 = .ok (.iconst 3, 1) := by decide +kernel
theorem dX11_freeWord_43 : decode cX11_freeWord 43 = .ok (.ireturn, 1) := by decide +kernel
theorem dX11_freeWord_44 : decode cX11_freeWord 44 = .ok (.aload_n 0, 1) := by decide +kernel
theorem dX11_freeWord_45 : decode cX11_freeWord 45 = .ok (.ldc 191, 2) := by decide +kernel
theorem dX11_freeWord_47 : decode cX11_freeWord 47 = .ok (.invokevirtual 135, 3) := by decide +kernel
theorem dX11_freeWord_50 : decode cX11_freeWord 50 = .ok (.ifCond .eq 7, 3) := by decide +kernel
theorem dX11_freeWord_53 : decode cX11_freeWord 53 = .ok (.iconst 4, 1) := by decide +kernel
theorem dX11_freeWord_54 : decode cX11_freeWord 54 = .ok (.goto 4, 3) := by decide +kernel
theorem dX11_freeWord_57 : decode cX11_freeWord 57 = .ok (.iconst (-1), 1) := by decide +kernel
theorem dX11_freeWord_58 : decode cX11_freeWord 58 = .ok (.ireturn, 1) := by decide +kernel
theorem dX11_lawWord_0 : decode cX11_lawWord 0 = .ok (.aload_n 0, 1) := by decide +kernel
theorem dX11_lawWord_1 : decode cX11_lawWord 1 = .ok (.getfield 141, 3) := by decide +kernel
theorem dX11_lawWord_4 : decode cX11_lawWord 4 = .ok (.iconst 5, 1) := by decide +kernel
theorem dX11_lawWord_5 : decode cX11_lawWord 5 = .ok (.if_icmp .ne 10, 3) := by decide +kernel
theorem dX11_lawWord_8 : decode cX11_lawWord 8 = .ok (.aload_n 0, 1) := by decide +kernel
theorem dX11_lawWord_9 : decode cX11_lawWord 9 = .ok (.invokevirtual 203, 3) := by decide +kernel
theorem dX11_lawWord_12 : decode cX11_lawWord 12 = .ok (.goto 7, 3) := by decide +kernel
theorem dX11_lawWord_15 : decode cX11_lawWord 15 = .ok (.aload_n 0, 1) := by decide +kernel
theorem dX11_lawWord_16 : decode cX11_lawWord 16 = .ok (.invokevirtual 206, 3) := by decide +kernel
theorem dX11_lawWord_19 : decode cX11_lawWord 19 = .ok (.ireturn, 1) := by decide +kernel
theorem dX11_readAtom_0 : decode cX11_readAtom 0 = .ok (.aload_n 0, 1) := by decide +kernel
theorem dX11_readAtom_1 : decode cX11_readAtom 1 = .ok (.getfield 105, 3) := by decide +kernel
theorem dX11_readAtom_4 : decode cX11_readAtom 4 = .ok (.ifCond .eq 4, 3) := by decide +kernel
theorem dX11_readAtom_7 : decode cX11_readAtom 7 = .ok (.return_, 1) := by decide +kernel
theorem dX11_readAtom_8 : decode cX11_readAtom 8 = .ok (.aload_n 0, 1) := by decide +kernel
theorem dX11_readAtom_9 : decode cX11_readAtom 9 = .ok (.invokevirtual 209, 3) := by decide +kernel
theorem dX11_readAtom_12 : decode cX11_readAtom 12 = .ok (.istore_n 1, 1) := by decide +kernel
theorem dX11_readAtom_13 : decode cX11_readAtom 13 = .ok (.iload_n 1, 1) := by decide +kernel
theorem dX11_readAtom_14 : decode cX11_readAtom 14 = .ok (.iconst (-1), 1) := by decide +kernel
theorem dX11_readAtom_15 : decode cX11_readAtom 15 = .ok (.if_icmp .eq 14, 3) := by decide +kernel
theorem dX11_readAtom_18 : decode cX11_readAtom 18 = .ok (.aload_n 0, 1) := by decide +kernel
theorem dX11_readAtom_19 : decode cX11_readAtom 19 = .ok (.bipush 100, 2) := by decide +kernel
theorem dX11_readAtom_21 : decode cX11_readAtom 21 = .ok (.iload_n 1, 1) := by decide +kernel
theorem dX11_readAtom_22 : decode cX11_readAtom 22 = .ok (.iadd, 1) := by decide +kernel
theorem dX11_readAtom_23 : decode cX11_readAtom 23 = .ok (.invokevirtual 152, 3) := by decide +kernel
theorem dX11_readAtom_26 : decode cX11_readAtom 26 = .ok (.goto 57, 3) := by decide +kernel
theorem dX11_readAtom_29 : decode cX11_readAtom 29 = .ok (.aload_n 0, 1) := by decide +kernel
theorem dX11_readAtom_30 : decode cX11_readAtom 30 = .ok (.bipush 40, 2) := by decide +kernel
theorem dX11_readAtom_32 : decode cX11_readAtom 32 = .ok (.invokevirtual 165, 3) := by decide +kernel
theorem dX11_readAtom_35 : decode cX11_readAtom 35 = .ok (.ifCond .eq 30, 3) := by decide +kernel
theorem dX11_readAtom_38 : decode cX11_readAtom 38 = .ok (.aload_n 0, 1) := by decide +kernel
theorem dX11_readAtom_39 : decode cX11_readAtom 39 = .ok (.invokevirtual 162, 3) := by decide +kernel
theorem dX11_readAtom_42 : decode cX11_readAtom 42 = .ok (.aload_n 0, 1) := by decide +kernel
theorem dX11_readAtom_43 : decode cX11_readAtom 43 = .ok (.invokevirtual 174, 3) := by decide +kernel
theorem dX11_readAtom_46 : decode cX11_readAtom 46 = .ok (.aload_n 0, 1) := by decide +kernel
theorem dX11_readAtom_47 : decode cX11_readAtom 47 = .ok (.bipush 41, 2) := by decide +kernel
theorem dX11_readAtom_49 : decode cX11_readAtom 49 = .ok (.invokevirtual 171, 3) := by decide +kernel
theorem dX11_readAtom_52 : decode cX11_readAtom 52 = .ok (.aload_n 0, 1) := by decide +kernel
theorem dX11_readAtom_53 : decode cX11_readAtom 53 = .ok (.dup, 1) := by decide +kernel
theorem dX11_readAtom_54 : decode cX11_readAtom 54 = .ok (.getfield 144, 3) := by decide +kernel
theorem dX11_readAtom_57 : decode cX11_readAtom 57 = .ok (.iconst 1, 1) := by decide +kernel
theorem dX11_readAtom_58 : decode cX11_readAtom 58 = .ok (.isub, 1) := by decide +kernel
theorem dX11_readAtom_59 : decode cX11_readAtom 59 = .ok (.putfield 144, 3) := by decide +kernel
theorem dX11_readAtom_62 : decode cX11_readAtom 62 = .ok (.goto 21, 3) := by decide +kernel
theorem dX11_readAtom_65 : decode cX11_readAtom 65 = .ok (.aload_n 0, 1) := by decide +kernel
theorem dX11_readAtom_66 : decode cX11_readAtom 66 = .ok (.iconst 0, 1) := by decide +kernel
theorem dX11_readAtom_67 : decode cX11_readAtom 67 = .ok (.sipush 999, 3) := by decide +kernel
theorem dX11_readAtom_70 : decode cX11_readAtom 70 = .ok (.invokevirtual 212, 3) := by decide +kernel
theorem dX11_readAtom_73 : decode cX11_readAtom 73 = .ok (.istore_n 2, 1) := by decide +kernel
theorem dX11_readAtom_74 : decode cX11_readAtom 74 = .ok (.aload_n 0, 1) := by decide +kernel
theorem dX11_readAtom_75 : decode cX11_readAtom 75 = .ok (.sipush 1000, 3) := by decide +kernel
theorem dX11_readAtom_78 : decode cX11_readAtom 78 = .ok (.iload_n 2, 1) := by decide +kernel
theorem dX11_readAtom_79 : decode cX11_readAtom 79 = .ok (.iadd, 1) := by decide +kernel
theorem dX11_readAtom_80 : decode cX11_readAtom 80 = .ok (.invokevirtual 152, 3) := by decide +kernel
theorem dX11_readAtom_83 : decode cX11_readAtom 83 = .ok (.return_, 1) := by decide +kernel
theorem dX11_begins_0 : decode cX11_begins 0 = .ok (.aload_n 0, 1) := by decide +kernel
theorem dX11_begins_1 : decode cX11_begins 1 = .ok (.getfield 13, 3) := by decide +kernel
theorem dX11_begins_4 : decode cX11_begins 4 = .ok (.iload_n 1, 1) := by decide +kernel
theorem dX11_begins_5 : decode cX11_begins 5 = .ok (.iaload, 1) := by decide +kernel
theorem dX11_begins_6 : decode cX11_begins 6 = .ok (.iload_n 2, 1) := by decide +kernel
theorem dX11_begins_7 : decode cX11_begins 7 = .ok (.if_icmp .ne 8, 3) := by decide +kernel
theorem dX11_begins_10 : decode cX11_begins 10 = .ok (.aload_n 0, 1) := by decide +kernel
theorem dX11_begins_11 : decode cX11_begins 11 = .ok (.iconst 4, 1) := by decide +kernel
theorem dX11_begins_12 : decode cX11_begins 12 = .ok (.invokevirtual 127, 3) := by decide +kernel
theorem dX11_begins_15 : decode cX11_begins 15 = .ok (.aload_n 0, 1) := by decide +kernel
theorem dX11_begins_16 : decode cX11_begins 16 = .ok (.getfield 105, 3) := by decide +kernel
theorem dX11_begins_19 : decode cX11_begins 19 = .ok (.ifCond .ne 7, 3) := by decide +kernel
theorem dX11_begins_22 : decode cX11_begins 22 = .ok (.aload_n 0, 1) := by decide +kernel
theorem dX11_begins_23 : decode cX11_begins 23 = .ok (.invokevirtual 124, 3) := by decide +kernel
theorem dX11_begins_26 : decode cX11_begins 26 = .ok (.aload_n 0, 1) := by decide +kernel
theorem dX11_begins_27 : decode cX11_begins 27 = .ok (.getfield 105, 3) := by decide +kernel
theorem dX11_begins_30 : decode cX11_begins 30 = .ok (.ifCond .ne 7, 3) := by decide +kernel
theorem dX11_begins_33 : decode cX11_begins 33 = .ok (.iconst 1, 1) := by decide +kernel
theorem dX11_begins_34 : decode cX11_begins 34 = .ok (.goto 4, 3) := by decide +kernel
theorem dX11_begins_37 : decode cX11_begins 37 = .ok (.iconst 0, 1) := by decide +kernel
theorem dX11_begins_38 : decode cX11_begins 38 = .ok (.ireturn, 1) := by decide +kernel
theorem dX11_readUp_0 : decode cX11_readUp 0 = .ok (.aload_n 0, 1) := by decide +kernel
theorem dX11_readUp_1 : decode cX11_readUp 1 = .ok (.iconst 0, 1) := by decide +kernel
theorem dX11_readUp_2 : decode cX11_readUp 2 = .ok (.aload_n 0, 1) := by decide +kernel
theorem dX11_readUp_3 : decode cX11_readUp 3 = .ok (.getfield 13, 3) := by decide +kernel
theorem dX11_readUp_6 : decode cX11_readUp 6 = .ok (.iconst 1, 1) := by decide +kernel
theorem dX11_readUp_7 : decode cX11_readUp 7 = .ok (.iaload, 1) := by decide +kernel
theorem dX11_readUp_8 : decode cX11_readUp 8 = .ok (.iconst 1, 1) := by decide +kernel
theorem dX11_readUp_9 : decode cX11_readUp 9 = .ok (.isub, 1) := by decide +kernel
theorem dX11_readUp_10 : decode cX11_readUp 10 = .ok (.invokevirtual 212, 3) := by decide +kernel
theorem dX11_readUp_13 : decode cX11_readUp 13 = .ok (.istore_n 2, 1) := by decide +kernel
theorem dX11_readUp_14 : decode cX11_readUp 14 = .ok (.aload_n 0, 1) := by decide +kernel
theorem dX11_readUp_15 : decode cX11_readUp 15 = .ok (.getfield 105, 3) := by decide +kernel
theorem dX11_readUp_18 : decode cX11_readUp 18 = .ok (.ifCond .ne 44, 3) := by decide +kernel
theorem dX11_readUp_21 : decode cX11_readUp 21 = .ok (.aload_n 0, 1) := by decide +kernel
theorem dX11_readUp_22 : decode cX11_readUp 22 = .ok (.getfield 85, 3) := by decide +kernel
theorem dX11_readUp_25 : decode cX11_readUp 25 = .ok (.iconst 2, 1) := by decide +kernel
theorem dX11_readUp_26 : decode cX11_readUp 26 = .ok (.if_icmp .ne 36, 3) := by decide +kernel
theorem dX11_readUp_29 : decode cX11_readUp 29 = .ok (.aload_n 0, 1) := by decide +kernel
theorem dX11_readUp_30 : decode cX11_readUp 30 = .ok (.getfield 99, 3) := by decide +kernel
theorem dX11_readUp_33 : decode cX11_readUp 33 = .ok (.aload_n 0, 1) := by decide +kernel
theorem dX11_readUp_34 : decode cX11_readUp 34 = .ok (.getfield 13, 3) := by decide +kernel
theorem dX11_readUp_37 : decode cX11_readUp 37 = .ok (.iconst 2, 1) := by decide +kernel
theorem dX11_readUp_38 : decode cX11_readUp 38 = .ok (.iaload, 1) := by decide +kernel
theorem dX11_readUp_39 : decode cX11_readUp 39 = .ok (.if_icmp .ge 23, 3) := by decide +kernel
theorem dX11_readUp_42 : decode cX11_readUp 42 = .ok (.aload_n 0, 1) := by decide +kernel
theorem dX11_readUp_43 : decode cX11_readUp 43 = .ok (.getfield 13, 3) := by decide +kernel
theorem dX11_readUp_46 : decode cX11_readUp 46 = .ok (.iload_n 2, 1) := by decide +kernel
theorem dX11_readUp_47 : decode cX11_readUp 47 = .ok (.aload_n 0, 1) := by decide +kernel
theorem dX11_readUp_48 : decode cX11_readUp 48 = .ok (.getfield 99, 3) := by decide +kernel
theorem dX11_readUp_51 : decode cX11_readUp 51 = .ok (.invokestatic 216, 3) := by decide +kernel
theorem dX11_readUp_54 : decode cX11_readUp 54 = .ok (.ifCond .ne 8, 3) := by decide +kernel
theorem dX11_readUp_57 : decode cX11_readUp 57 = .ok (.aload_n 0, 1) := by decide +kernel
theorem dX11_readUp_58 : decode cX11_readUp 58 = .ok (.iconst 3, 1) := by decide +kernel
theorem dX11_readUp_59 : decode cX11_readUp 59 = .ok (.invokevirtual 127, 3) := by decide +kernel
theorem dX11_readUp_62 : decode cX11_readUp 62 = .ok (.aload_n 0, 1) := by decide +kernel
theorem dX11_readUp_63 : decode cX11_readUp 63 = .ok (.iconst 0, 1) := by decide +kernel
theorem dX11_readUp_64 : decode cX11_readUp 64 = .ok (.aload_n 0, 1) := by decide +kernel
theorem dX11_readUp_65 : decode cX11_readUp 65 = .ok (.getfield 13, 3) := by decide +kernel
theorem dX11_readUp_68 : decode cX11_readUp 68 = .ok (.iconst 2, 1) := by decide +kernel
theorem dX11_readUp_69 : decode cX11_readUp 69 = .ok (.iaload, 1) := by decide +kernel
theorem dX11_readUp_70 : decode cX11_readUp 70 = .ok (.iconst 1, 1) := by decide +kernel
theorem dX11_readUp_71 : decode cX11_readUp 71 = .ok (.isub, 1) := by decide +kernel
theorem dX11_readUp_72 : decode cX11_readUp 72 = .ok (.invokevirtual 212, 3) := by decide +kernel
theorem dX11_readUp_75 : decode cX11_readUp 75 = .ok (.istore_n 3, 1) := by decide +kernel
theorem dX11_readUp_76 : decode cX11_readUp 76 = .ok (.aload_n 0, 1) := by decide +kernel
theorem dX11_readUp_77 : decode cX11_readUp 77 = .ok (.ldc 220, 2) := by decide +kernel
theorem dX11_readUp_79 : decode cX11_readUp 79 = .ok (.invokevirtual 222, 3) := by decide +kernel
theorem dX11_readUp_82 : decode cX11_readUp 82 = .ok (.aload_n 0, 1) := by decide +kernel
theorem dX11_readUp_83 : decode cX11_readUp 83 = .ok (.iconst 1, 1) := by decide +kernel
theorem dX11_readUp_84 : decode cX11_readUp 84 = .ok (.bipush 99, 2) := by decide +kernel
theorem dX11_readUp_86 : decode cX11_readUp 86 = .ok (.invokevirtual 212, 3) := by decide +kernel
theorem dX11_readUp_89 : decode cX11_readUp 89 = .ok (.istore 4, 2) := by decide +kernel
theorem dX11_readUp_91 : decode cX11_readUp 91 = .ok (.aload_n 0, 1) := by decide +kernel
theorem dX11_readUp_92 : decode cX11_readUp 92 = .ok (.iload_n 1, 1) := by decide +kernel
theorem dX11_readUp_93 : decode cX11_readUp 93 = .ok (.iconst 1, 1) := by decide +kernel
theorem dX11_readUp_94 : decode cX11_readUp 94 = .ok (.iload_n 2, 1) := by decide +kernel
theorem dX11_readUp_95 : decode cX11_readUp 95 = .ok (.iload_n 3, 1) := by decide +kernel
theorem dX11_readUp_96 : decode cX11_readUp 96 = .ok (.iload 4, 2) := by decide +kernel
theorem dX11_readUp_98 : decode cX11_readUp 98 = .ok (.invokevirtual 226, 3) := by decide +kernel
theorem dX11_readUp_101 : decode cX11_readUp 101 = .ok (.return_, 1) := by decide +kernel
theorem dX11_readOn_0 : decode cX11_readOn 0 = .ok (.aload_n 0, 1) := by decide +kernel
theorem dX11_readOn_1 : decode cX11_readOn 1 = .ok (.getfield 105, 3) := by decide +kernel
theorem dX11_readOn_4 : decode cX11_readOn 4 = .ok (.ifCond .ne 54, 3) := by decide +kernel
theorem dX11_readOn_7 : decode cX11_readOn 7 = .ok (.aload_n 0, 1) := by decide +kernel
theorem dX11_readOn_8 : decode cX11_readOn 8 = .ok (.getfield 85, 3) := by decide +kernel
theorem dX11_readOn_11 : decode cX11_readOn 11 = .ok (.iconst 2, 1) := by decide +kernel
theorem dX11_readOn_12 : decode cX11_readOn 12 = .ok (.if_icmp .ne 46, 3) := by decide +kernel
theorem dX11_readOn_15 : decode cX11_readOn 15 = .ok (.aload_n 0, 1) := by decide +kernel
theorem dX11_readOn_16 : decode cX11_readOn 16 = .ok (.getfield 99, 3) := by decide +kernel
theorem dX11_readOn_19 : decode cX11_readOn 19 = .ok (.aload_n 0, 1) := by decide +kernel
theorem dX11_readOn_20 : decode cX11_readOn 20 = .ok (.getfield 13, 3) := by decide +kernel
theorem dX11_readOn_23 : decode cX11_readOn 23 = .ok (.iconst 1, 1) := by decide +kernel
theorem dX11_readOn_24 : decode cX11_readOn 24 = .ok (.iaload, 1) := by decide +kernel
theorem dX11_readOn_25 : decode cX11_readOn 25 = .ok (.if_icmp .ge 33, 3) := by decide +kernel
theorem dX11_readOn_28 : decode cX11_readOn 28 = .ok (.aload_n 0, 1) := by decide +kernel
theorem dX11_readOn_29 : decode cX11_readOn 29 = .ok (.getfield 13, 3) := by decide +kernel
theorem dX11_readOn_32 : decode cX11_readOn 32 = .ok (.aload_n 0, 1) := by decide +kernel
theorem dX11_readOn_33 : decode cX11_readOn 33 = .ok (.getfield 99, 3) := by decide +kernel
theorem dX11_readOn_36 : decode cX11_readOn 36 = .ok (.aload_n 0, 1) := by decide +kernel
theorem dX11_readOn_37 : decode cX11_readOn 37 = .ok (.getfield 13, 3) := by decide +kernel
theorem dX11_readOn_40 : decode cX11_readOn 40 = .ok (.aload_n 0, 1) := by decide +kernel
theorem dX11_readOn_41 : decode cX11_readOn 41 = .ok (.getfield 99, 3) := by decide +kernel
theorem dX11_readOn_44 : decode cX11_readOn 44 = .ok (.invokestatic 230, 3) := by decide +kernel
theorem dX11_readOn_47 : decode cX11_readOn 47 = .ok (.invokestatic 216, 3) := by decide +kernel
theorem dX11_readOn_50 : decode cX11_readOn 50 = .ok (.ifCond .ne 8, 3) := by decide +kernel
theorem dX11_readOn_53 : decode cX11_readOn 53 = .ok (.aload_n 0, 1) := by decide +kernel
theorem dX11_readOn_54 : decode cX11_readOn 54 = .ok (.iconst 3, 1) := by decide +kernel
theorem dX11_readOn_55 : decode cX11_readOn 55 = .ok (.invokevirtual 127, 3) := by decide +kernel
theorem dX11_readOn_58 : decode cX11_readOn 58 = .ok (.aload_n 0, 1) := by decide +kernel
theorem dX11_readOn_59 : decode cX11_readOn 59 = .ok (.iconst 0, 1) := by decide +kernel
theorem dX11_readOn_60 : decode cX11_readOn 60 = .ok (.aload_n 0, 1) := by decide +kernel
theorem dX11_readOn_61 : decode cX11_readOn 61 = .ok (.getfield 13, 3) := by decide +kernel
theorem dX11_readOn_64 : decode cX11_readOn 64 = .ok (.iconst 1, 1) := by decide +kernel
theorem dX11_readOn_65 : decode cX11_readOn 65 = .ok (.iaload, 1) := by decide +kernel
theorem dX11_readOn_66 : decode cX11_readOn 66 = .ok (.iconst 1, 1) := by decide +kernel
theorem dX11_readOn_67 : decode cX11_readOn 67 = .ok (.isub, 1) := by decide +kernel
theorem dX11_readOn_68 : decode cX11_readOn 68 = .ok (.invokevirtual 212, 3) := by decide +kernel
theorem dX11_readOn_71 : decode cX11_readOn 71 = .ok (.istore_n 2, 1) := by decide +kernel
theorem dX11_readOn_72 : decode cX11_readOn 72 = .ok (.aload_n 0, 1) := by decide +kernel
theorem dX11_readOn_73 : decode cX11_readOn 73 = .ok (.iload_n 1, 1) := by decide +kernel
theorem dX11_readOn_74 : decode cX11_readOn 74 = .ok (.iconst 2, 1) := by decide +kernel
theorem dX11_readOn_75 : decode cX11_readOn 75 = .ok (.iload_n 2, 1) := by decide +kernel
theorem dX11_readOn_76 : decode cX11_readOn 76 = .ok (.aload_n 0, 1) := by decide +kernel
theorem dX11_readOn_77 : decode cX11_readOn 77 = .ok (.getfield 13, 3) := by decide +kernel
theorem dX11_readOn_80 : decode cX11_readOn 80 = .ok (.iload_n 2, 1) := by decide +kernel
theorem dX11_readOn_81 : decode cX11_readOn 81 = .ok (.invokestatic 230, 3) := by decide +kernel
theorem dX11_readOn_84 : decode cX11_readOn 84 = .ok (.iconst 0, 1) := by decide +kernel
theorem dX11_readOn_85 : decode cX11_readOn 85 = .ok (.invokevirtual 226, 3) := by decide +kernel
theorem dX11_readOn_88 : decode cX11_readOn 88 = .ok (.return_, 1) := by decide +kernel
theorem dX11_lays_0 : decode cX11_lays 0 = .ok (.aload_n 0, 1) := by decide +kernel
theorem dX11_lays_1 : decode cX11_lays 1 = .ok (.getfield 105, 3) := by decide +kernel
theorem dX11_lays_4 : decode cX11_lays 4 = .ok (.ifCond .eq 4, 3) := by decide +kernel
theorem dX11_lays_7 : decode cX11_lays 7 = .ok (.return_, 1) := by decide +kernel
theorem dX11_lays_8 : decode cX11_lays 8 = .ok (.aload_n 0, 1) := by decide +kernel
theorem dX11_lays_9 : decode cX11_lays 9 = .ok (.getfield 13, 3) := by decide +kernel
theorem dX11_lays_12 : decode cX11_lays 12 = .ok (.bipush 8, 2) := by decide +kernel
theorem dX11_lays_14 : decode cX11_lays 14 = .ok (.iload_n 1, 1) := by decide +kernel
theorem dX11_lays_15 : decode cX11_lays 15 = .ok (.iadd, 1) := by decide +kernel
theorem dX11_lays_16 : decode cX11_lays 16 = .ok (.iload_n 2, 1) := by decide +kernel
theorem dX11_lays_17 : decode cX11_lays 17 = .ok (.iastore, 1) := by decide +kernel
theorem dX11_lays_18 : decode cX11_lays 18 = .ok (.aload_n 0, 1) := by decide +kernel
theorem dX11_lays_19 : decode cX11_lays 19 = .ok (.getfield 13, 3) := by decide +kernel
theorem dX11_lays_22 : decode cX11_lays 22 = .ok (.bipush 16, 2) := by decide +kernel
theorem dX11_lays_24 : decode cX11_lays 24 = .ok (.iload_n 1, 1) := by decide +kernel
theorem dX11_lays_25 : decode cX11_lays 25 = .ok (.iadd, 1) := by decide +kernel
theorem dX11_lays_26 : decode cX11_lays 26 = .ok (.iload_n 3, 1) := by decide +kernel
theorem dX11_lays_27 : decode cX11_lays 27 = .ok (.iastore, 1) := by decide +kernel
theorem dX11_lays_28 : decode cX11_lays 28 = .ok (.aload_n 0, 1) := by decide +kernel
theorem dX11_lays_29 : decode cX11_lays 29 = .ok (.getfield 13, 3) := by decide +kernel
theorem dX11_lays_32 : decode cX11_lays 32 = .ok (.bipush 24, 2) := by decide +kernel
theorem dX11_lays_34 : decode cX11_lays 34 = .ok (.iload_n 1, 1) := by decide +kernel
theorem dX11_lays_35 : decode cX11_lays 35 = .ok (.iadd, 1) := by decide +kernel
theorem dX11_lays_36 : decode cX11_lays 36 = .ok (.iload 4, 2) := by decide +kernel
theorem dX11_lays_38 : decode cX11_lays 38 = .ok (.iastore, 1) := by decide +kernel
theorem dX11_lays_39 : decode cX11_lays 39 = .ok (.aload_n 0, 1) := by decide +kernel
theorem dX11_lays_40 : decode cX11_lays 40 = .ok (.getfield 13, 3) := by decide +kernel
theorem dX11_lays_43 : decode cX11_lays 43 = .ok (.bipush 32, 2) := by decide +kernel
theorem dX11_lays_45 : decode cX11_lays 45 = .ok (.iload_n 1, 1) := by decide +kernel
theorem dX11_lays_46 : decode cX11_lays 46 = .ok (.iadd, 1) := by decide +kernel
theorem dX11_lays_47 : decode cX11_lays 47 = .ok (.iload 5, 2) := by decide +kernel
theorem dX11_lays_49 : decode cX11_lays 49 = .ok (.iastore, 1) := by decide +kernel
theorem dX11_lays_50 : decode cX11_lays 50 = .ok (.return_, 1) := by decide +kernel
theorem dX11_readThing_0 : decode cX11_readThing 0 = .ok (.aload_n 0, 1) := by decide +kernel
theorem dX11_readThing_1 : decode cX11_readThing 1 = .ok (.iconst 3, 1) := by decide +kernel
theorem dX11_readThing_2 : decode cX11_readThing 2 = .ok (.bipush 8, 2) := by decide +kernel
theorem dX11_readThing_4 : decode cX11_readThing 4 = .ok (.invokevirtual 234, 3) := by decide +kernel
theorem dX11_readThing_7 : decode cX11_readThing 7 = .ok (.ifCond .ne 4, 3) := by decide +kernel
theorem dX11_readThing_10 : decode cX11_readThing 10 = .ok (.return_, 1) := by decide +kernel
theorem dX11_readThing_11 : decode cX11_readThing 11 = .ok (.aload_n 0, 1) := by decide +kernel
theorem dX11_readThing_12 : decode cX11_readThing 12 = .ok (.getfield 13, 3) := by decide +kernel
theorem dX11_readThing_15 : decode cX11_readThing 15 = .ok (.iconst 3, 1) := by decide +kernel
theorem dX11_readThing_16 : decode cX11_readThing 16 = .ok (.iaload, 1) := by decide +kernel
theorem dX11_readThing_17 : decode cX11_readThing 17 = .ok (.istore_n 1, 1) := by decide +kernel
theorem dX11_readThing_18 : decode cX11_readThing 18 = .ok (.aload_n 0, 1) := by decide +kernel
theorem dX11_readThing_19 : decode cX11_readThing 19 = .ok (.iconst 1, 1) := by decide +kernel
theorem dX11_readThing_20 : decode cX11_readThing 20 = .ok (.bipush 99, 2) := by decide +kernel
theorem dX11_readThing_22 : decode cX11_readThing 22 = .ok (.invokevirtual 212, 3) := by decide +kernel
theorem dX11_readThing_25 : decode cX11_readThing 25 = .ok (.istore_n 2, 1) := by decide +kernel
theorem dX11_readThing_26 : decode cX11_readThing 26 = .ok (.aload_n 0, 1) := by decide +kernel
theorem dX11_readThing_27 : decode cX11_readThing 27 = .ok (.ldc 183, 2) := by decide +kernel
theorem dX11_readThing_29 : decode cX11_readThing 29 = .ok (.invokevirtual 135, 3) := by decide +kernel
theorem dX11_readThing_32 : decode cX11_readThing 32 = .ok (.ifCond .eq 23, 3) := by decide +kernel
theorem dX11_readThing_35 : decode cX11_readThing 35 = .ok (.aload_n 0, 1) := by decide +kernel
theorem dX11_readThing_36 : decode cX11_readThing 36 = .ok (.iconst 0, 1) := by decide +kernel
theorem dX11_readThing_37 : decode cX11_readThing 37 = .ok (.bipush 99, 2) := by decide +kernel
theorem dX11_readThing_39 : decode cX11_readThing 39 = .ok (.invokevirtual 212, 3) := by decide +kernel
theorem dX11_readThing_42 : decode cX11_readThing 42 = .ok (.istore_n 3, 1) := by decide +kernel
theorem dX11_readThing_43 : decode cX11_readThing 43 = .ok (.aload_n 0, 1) := by decide +kernel
theorem dX11_readThing_44 : decode cX11_readThing 44 = .ok (.iload_n 1, 1) := by decide +kernel
theorem dX11_readThing_45 : decode cX11_readThing 45 = .ok (.iconst 0, 1) := by decide +kernel
theorem dX11_readThing_46 : decode cX11_readThing 46 = .ok (.iconst (-1), 1) := by decide +kernel
theorem dX11_readThing_47 : decode cX11_readThing 47 = .ok (.iconst (-1), 1) := by decide +kernel
theorem dX11_readThing_48 : decode cX11_readThing 48 = .ok (.iload_n 3, 1) := by decide +kernel
theorem dX11_readThing_49 : decode cX11_readThing 49 = .ok (.invokevirtual 226, 3) := by decide +kernel
theorem dX11_readThing_52 : decode cX11_readThing 52 = .ok (.goto 42, 3) := by decide +kernel
theorem dX11_readThing_55 : decode cX11_readThing 55 = .ok (.aload_n 0, 1) := by decide +kernel
theorem dX11_readThing_56 : decode cX11_readThing 56 = .ok (.ldc 238, 2) := by decide +kernel
theorem dX11_readThing_58 : decode cX11_readThing 58 = .ok (.invokevirtual 135, 3) := by decide +kernel
theorem dX11_readThing_61 : decode cX11_readThing 61 = .ok (.ifCond .eq 11, 3) := by decide +kernel
theorem dX11_readThing_64 : decode cX11_readThing 64 = .ok (.aload_n 0, 1) := by decide +kernel
theorem dX11_readThing_65 : decode cX11_readThing 65 = .ok (.iload_n 1, 1) := by decide +kernel
theorem dX11_readThing_66 : decode cX11_readThing 66 = .ok (.invokevirtual 240, 3) := by decide +kernel
theorem dX11_readThing_69 : decode cX11_readThing 69 = .ok (.goto 25, 3) := by decide +kernel
theorem dX11_readThing_72 : decode cX11_readThing 72 = .ok (.aload_n 0, 1) := by decide +kernel
theorem dX11_readThing_73 : decode cX11_readThing 73 = .ok (.ldc 243, 2) := by decide +kernel
theorem dX11_readThing_75 : decode cX11_readThing 75 = .ok (.invokevirtual 135, 3) := by decide +kernel
theorem dX11_readThing_78 : decode cX11_readThing 78 = .ok (.ifCond .eq 11, 3) := by decide +kernel
theorem dX11_readThing_81 : decode cX11_readThing 81 = .ok (.aload_n 0, 1) := by decide +kernel
theorem dX11_readThing_82 : decode cX11_readThing 82 = .ok (.iload_n 1, 1) := by decide +kernel
theorem dX11_readThing_83 : decode cX11_readThing 83 = .ok (.invokevirtual 245, 3) := by decide +kernel
theorem dX11_readThing_86 : decode cX11_readThing 86 = .ok (.goto 8, 3) := by decide +kernel
theorem dX11_readThing_89 : decode cX11_readThing 89 = .ok (.aload_n 0, 1) := by decide +kernel
theorem dX11_readThing_90 : decode cX11_readThing 90 = .ok (.iconst 2, 1) := by decide +kernel
theorem dX11_readThing_91 : decode cX11_readThing 91 = .ok (.invokevirtual 127, 3) := by decide +kernel
theorem dX11_readThing_94 : decode cX11_readThing 94 = .ok (.aload_n 0, 1) := by decide +kernel
theorem dX11_readThing_95 : decode cX11_readThing 95 = .ok (.getfield 105, 3) := by decide +kernel
theorem dX11_readThing_98 : decode cX11_readThing 98 = .ok (.ifCond .eq 4, 3) := by decide +kernel
theorem dX11_readThing_101 : decode cX11_readThing 101 = .ok (.return_, 1) := by decide +kernel
theorem dX11_readThing_102 : decode cX11_readThing 102 = .ok (.aload_n 0, 1) := by decide +kernel
theorem dX11_readThing_103 : decode cX11_readThing 103 = .ok (.getfield 13, 3) := by decide +kernel
theorem dX11_readThing_106 : decode cX11_readThing 106 = .ok (.bipush 45, 2) := by decide +kernel
theorem dX11_readThing_108 : decode cX11_readThing 108 = .ok (.iload_n 1, 1) := by decide +kernel
theorem dX11_readThing_109 : decode cX11_readThing 109 = .ok (.iadd, 1) := by decide +kernel
theorem dX11_readThing_110 : decode cX11_readThing 110 = .ok (.iload_n 2, 1) := by decide +kernel
theorem dX11_readThing_111 : decode cX11_readThing 111 = .ok (.iastore, 1) := by decide +kernel
theorem dX11_readThing_112 : decode cX11_readThing 112 = .ok (.aload_n 0, 1) := by decide +kernel
theorem dX11_readThing_113 : decode cX11_readThing 113 = .ok (.getfield 13, 3) := by decide +kernel
theorem dX11_readThing_116 : decode cX11_readThing 116 = .ok (.iconst 3, 1) := by decide +kernel
theorem dX11_readThing_117 : decode cX11_readThing 117 = .ok (.dup2, 1) := by decide +kernel
theorem dX11_readThing_118 : decode cX11_readThing 118 = .ok (.iaload, 1) := by decide +kernel
theorem dX11_readThing_119 : decode cX11_readThing 119 = .ok (.iconst 1, 1) := by decide +kernel
theorem dX11_readThing_120 : decode cX11_readThing 120 = .ok (.iadd, 1) := by decide +kernel
theorem dX11_readThing_121 : decode cX11_readThing 121 = .ok (.iastore, 1) := by decide +kernel
theorem dX11_readThing_122 : decode cX11_readThing 122 = .ok (.return_, 1) := by decide +kernel
theorem dX11_readWalker_0 : decode cX11_readWalker 0 = .ok (.aload_n 0, 1) := by decide +kernel
theorem dX11_readWalker_1 : decode cX11_readWalker 1 = .ok (.iconst 4, 1) := by decide +kernel
theorem dX11_readWalker_2 : decode cX11_readWalker 2 = .ok (.iconst 4, 1) := by decide +kernel
theorem dX11_readWalker_3 : decode cX11_readWalker 3 = .ok (.invokevirtual 234, 3) := by decide +kernel
theorem dX11_readWalker_6 : decode cX11_readWalker 6 = .ok (.ifCond .ne 4, 3) := by decide +kernel
theorem dX11_readWalker_9 : decode cX11_readWalker 9 = .ok (.return_, 1) := by decide +kernel
theorem dX11_readWalker_10 : decode cX11_readWalker 10 = .ok (.aload_n 0, 1) := by decide +kernel
theorem dX11_readWalker_11 : decode cX11_readWalker 11 = .ok (.getfield 13, 3) := by decide +kernel
theorem dX11_readWalker_14 : decode cX11_readWalker 14 = .ok (.iconst 4, 1) := by decide +kernel
theorem dX11_readWalker_15 : decode cX11_readWalker 15 = .ok (.iaload, 1) := by decide +kernel
theorem dX11_readWalker_16 : decode cX11_readWalker 16 = .ok (.istore_n 1, 1) := by decide +kernel
theorem dX11_readWalker_17 : decode cX11_readWalker 17 = .ok (.iconst 0, 1) := by decide +kernel
theorem dX11_readWalker_18 : decode cX11_readWalker 18 = .ok (.istore_n 2, 1) := by decide +kernel
theorem dX11_readWalker_19 : decode cX11_readWalker 19 = .ok (.iload_n 2, 1) := by decide +kernel
theorem dX11_readWalker_20 : decode cX11_readWalker 20 = .ok (.bipush 8, 2) := by decide +kernel
theorem dX11_readWalker_22 : decode cX11_readWalker 22 = .ok (.if_icmp .ne 8, 3) := by decide +kernel
theorem dX11_readWalker_25 : decode cX11_readWalker 25 = .ok (.aload_n 0, 1) := by decide +kernel
theorem dX11_readWalker_26 : decode cX11_readWalker 26 = .ok (.iconst 2, 1) := by decide +kernel
theorem dX11_readWalker_27 : decode cX11_readWalker 27 = .ok (.invokevirtual 127, 3) := by decide +kernel
theorem dX11_readWalker_30 : decode cX11_readWalker 30 = .ok (.aload_n 0, 1) := by decide +kernel
theorem dX11_readWalker_31 : decode cX11_readWalker 31 = .ok (.iconst 0, 1) := by decide +kernel
theorem dX11_readWalker_32 : decode cX11_readWalker 32 = .ok (.aload_n 0, 1) := by decide +kernel
theorem dX11_readWalker_33 : decode cX11_readWalker 33 = .ok (.getfield 13, 3) := by decide +kernel
theorem dX11_readWalker_36 : decode cX11_readWalker 36 = .ok (.iconst 1, 1) := by decide +kernel
theorem dX11_readWalker_37 : decode cX11_readWalker 37 = .ok (.iaload, 1) := by decide +kernel
theorem dX11_readWalker_38 : decode cX11_readWalker 38 = .ok (.iconst 1, 1) := by decide +kernel
theorem dX11_readWalker_39 : decode cX11_readWalker 39 = .ok (.isub, 1) := by decide +kernel
theorem dX11_readWalker_40 : decode cX11_readWalker 40 = .ok (.invokevirtual 212, 3) := by decide +kernel
theorem dX11_readWalker_43 : decode cX11_readWalker 43 = .ok (.istore_n 3, 1) := by decide +kernel
theorem dX11_readWalker_44 : decode cX11_readWalker 44 = .ok (.aload_n 0, 1) := by decide +kernel
theorem dX11_readWalker_45 : decode cX11_readWalker 45 = .ok (.getfield 105, 3) := by decide +kernel
theorem dX11_readWalker_48 : decode cX11_readWalker 48 = .ok (.ifCond .ne 18, 3) := by decide +kernel
theorem dX11_readWalker_51 : decode cX11_readWalker 51 = .ok (.aload_n 0, 1) := by decide +kernel
theorem dX11_readWalker_52 : decode cX11_readWalker 52 = .ok (.getfield 13, 3) := by decide +kernel
theorem dX11_readWalker_55 : decode cX11_readWalker 55 = .ok (.bipush 57, 2) := by decide +kernel
theorem dX11_readWalker_57 : decode cX11_readWalker 57 = .ok (.bipush 8, 2) := by decide +kernel
theorem dX11_readWalker_59 : decode cX11_readWalker 59 = .ok (.iload_n 1, 1) := by decide +kernel
theorem dX11_readWalker_60 : decode cX11_readWalker 60 = .ok (.imul, 1) := by decide +kernel
theorem dX11_readWalker_61 : decode cX11_readWalker 61 = .ok (.iadd, 1) := by decide +kernel
theorem dX11_readWalker_62 : decode cX11_readWalker 62 = .ok (.iload_n 2, 1) := by decide +kernel
theorem dX11_readWalker_63 : decode cX11_readWalker 63 = .ok (.iadd, 1) := by decide +kernel
theorem dX11_readWalker_64 : decode cX11_readWalker 64 = .ok (.iload_n 3, 1) := by decide +kernel
theorem dX11_readWalker_65 : decode cX11_readWalker 65 = .ok (.iastore, 1) := by decide +kernel
theorem dX11_readWalker_66 : decode cX11_readWalker 66 = .ok (.iinc 2 1, 3) := by decide +kernel
theorem dX11_readWalker_69 : decode cX11_readWalker 69 = .ok (.aload_n 0, 1) := by decide +kernel
theorem dX11_readWalker_70 : decode cX11_readWalker 70 = .ok (.getfield 105, 3) := by decide +kernel
theorem dX11_readWalker_73 : decode cX11_readWalker 73 = .ok (.ifCond .ne 11, 3) := by decide +kernel
theorem dX11_readWalker_76 : decode cX11_readWalker 76 = .ok (.aload_n 0, 1) := by decide +kernel
theorem dX11_readWalker_77 : decode cX11_readWalker 77 = .ok (.getfield 85, 3) := by decide +kernel
theorem dX11_readWalker_80 : decode cX11_readWalker 80 = .ok (.iconst 2, 1) := by decide +kernel
theorem dX11_readWalker_81 : decode cX11_readWalker 81 = .ok (.if_icmp .eq (-62), 3) := by decide +kernel
theorem dX11_readWalker_84 : decode cX11_readWalker 84 = .ok (.aload_n 0, 1) := by decide +kernel
theorem dX11_readWalker_85 : decode cX11_readWalker 85 = .ok (.getfield 105, 3) := by decide +kernel
theorem dX11_readWalker_88 : decode cX11_readWalker 88 = .ok (.ifCond .eq 4, 3) := by decide +kernel
theorem dX11_readWalker_91 : decode cX11_readWalker 91 = .ok (.return_, 1) := by decide +kernel
theorem dX11_readWalker_92 : decode cX11_readWalker 92 = .ok (.aload_n 0, 1) := by decide +kernel
theorem dX11_readWalker_93 : decode cX11_readWalker 93 = .ok (.getfield 13, 3) := by decide +kernel
theorem dX11_readWalker_96 : decode cX11_readWalker 96 = .ok (.bipush 53, 2) := by decide +kernel
theorem dX11_readWalker_98 : decode cX11_readWalker 98 = .ok (.iload_n 1, 1) := by decide +kernel
theorem dX11_readWalker_99 : decode cX11_readWalker 99 = .ok (.iadd, 1) := by decide +kernel
theorem dX11_readWalker_100 : decode cX11_readWalker 100 = .ok (.iload_n 2, 1) := by decide +kernel
theorem dX11_readWalker_101 : decode cX11_readWalker 101 = .ok (.iastore, 1) := by decide +kernel
theorem dX11_readWalker_102 : decode cX11_readWalker 102 = .ok (.aload_n 0, 1) := by decide +kernel
theorem dX11_readWalker_103 : decode cX11_readWalker 103 = .ok (.getfield 13, 3) := by decide +kernel
theorem dX11_readWalker_106 : decode cX11_readWalker 106 = .ok (.iconst 4, 1) := by decide +kernel
theorem dX11_readWalker_107 : decode cX11_readWalker 107 = .ok (.dup2, 1) := by decide +kernel
theorem dX11_readWalker_108 : decode cX11_readWalker 108 = .ok (.iaload, 1) := by decide +kernel
theorem dX11_readWalker_109 : decode cX11_readWalker 109 = .ok (.iconst 1, 1) := by decide +kernel
theorem dX11_readWalker_110 : decode cX11_readWalker 110 = .ok (.iadd, 1) := by decide +kernel
theorem dX11_readWalker_111 : decode cX11_readWalker 111 = .ok (.iastore, 1) := by decide +kernel
theorem dX11_readWalker_112 : decode cX11_readWalker 112 = .ok (.return_, 1) := by decide +kernel
theorem dX11_readStop_0 : decode cX11_readStop 0 = .ok (.aload_n 0, 1) := by decide +kernel
theorem dX11_readStop_1 : decode cX11_readStop 1 = .ok (.bipush 59, 2) := by decide +kernel
theorem dX11_readStop_3 : decode cX11_readStop 3 = .ok (.invokevirtual 171, 3) := by decide +kernel
theorem dX11_readStop_6 : decode cX11_readStop 6 = .ok (.aload_n 0, 1) := by decide +kernel
theorem dX11_readStop_7 : decode cX11_readStop 7 = .ok (.getfield 105, 3) := by decide +kernel
theorem dX11_readStop_10 : decode cX11_readStop 10 = .ok (.ifCond .ne 13, 3) := by decide +kernel
theorem dX11_readStop_13 : decode cX11_readStop 13 = .ok (.aload_n 0, 1) := by decide +kernel
theorem dX11_readStop_14 : decode cX11_readStop 14 = .ok (.getfield 13, 3) := by decide +kernel
theorem dX11_readStop_17 : decode cX11_readStop 17 = .ok (.iconst 0, 1) := by decide +kernel
theorem dX11_readStop_18 : decode cX11_readStop 18 = .ok (.dup2, 1) := by decide +kernel
theorem dX11_readStop_19 : decode cX11_readStop 19 = .ok (.iaload, 1) := by decide +kernel
theorem dX11_readStop_20 : decode cX11_readStop 20 = .ok (.iconst 1, 1) := by decide +kernel
theorem dX11_readStop_21 : decode cX11_readStop 21 = .ok (.iadd, 1) := by decide +kernel
theorem dX11_readStop_22 : decode cX11_readStop 22 = .ok (.iastore, 1) := by decide +kernel
theorem dX11_readStop_23 : decode cX11_readStop 23 = .ok (.return_, 1) := by decide +kernel
theorem dX11_readLine_0 : decode cX11_readLine 0 = .ok (.aload_n 0, 1) := by decide +kernel
theorem dX11_readLine_1 : decode cX11_readLine 1 = .ok (.ldc 248, 2) := by decide +kernel
theorem dX11_readLine_3 : decode cX11_readLine 3 = .ok (.invokevirtual 120, 3) := by decide +kernel
theorem dX11_readLine_6 : decode cX11_readLine 6 = .ok (.ifCond .eq 10, 3) := by decide +kernel
theorem dX11_readLine_9 : decode cX11_readLine 9 = .ok (.aload_n 0, 1) := by decide +kernel
theorem dX11_readLine_10 : decode cX11_readLine 10 = .ok (.invokevirtual 250, 3) := by decide +kernel
theorem dX11_readLine_13 : decode cX11_readLine 13 = .ok (.goto 114, 3) := by decide +kernel
theorem dX11_readLine_16 : decode cX11_readLine 16 = .ok (.aload_n 0, 1) := by decide +kernel
theorem dX11_readLine_17 : decode cX11_readLine 17 = .ok (.ldc 253, 2) := by decide +kernel
theorem dX11_readLine_19 : decode cX11_readLine 19 = .ok (.invokevirtual 120, 3) := by decide +kernel
theorem dX11_readLine_22 : decode cX11_readLine 22 = .ok (.ifCond .eq 10, 3) := by decide +kernel
theorem dX11_readLine_25 : decode cX11_readLine 25 = .ok (.aload_n 0, 1) := by decide +kernel
theorem dX11_readLine_26 : decode cX11_readLine 26 = .ok (.invokevirtual 255, 3) := by decide +kernel
theorem dX11_readLine_29 : decode cX11_readLine 29 = .ok (.goto 98, 3) := by decide +kernel
theorem dX11_readLine_32 : decode cX11_readLine 32 = .ok (.aload_n 0, 1) := by decide +kernel
theorem dX11_readLine_33 : decode cX11_readLine 33 = .ok (.ldc 191, 2) := by decide +kernel
theorem dX11_readLine_35 : decode cX11_readLine 35 = .ok (.invokevirtual 135, 3) := by decide +kernel
theorem dX11_readLine_38 : decode cX11_readLine 38 = .ok (.ifCond .eq 21, 3) := by decide +kernel
theorem dX11_readLine_41 : decode cX11_readLine 41 = .ok (.aload_n 0, 1) := by decide +kernel
theorem dX11_readLine_42 : decode cX11_readLine 42 = .ok (.getfield 13, 3) := by decide +kernel
theorem dX11_readLine_45 : decode cX11_readLine 45 = .ok (.bipush 40, 2) := by decide +kernel
theorem dX11_readLine_47 : decode cX11_readLine 47 = .ok (.aload_n 0, 1) := by decide +kernel
theorem dX11_readLine_48 : decode cX11_readLine 48 = .ok (.iconst 0, 1) := by decide +kernel
theorem dX11_readLine_49 : decode cX11_readLine 49 = .ok (.sipush 999, 3) := by decide +kernel
theorem dX11_readLine_52 : decode cX11_readLine 52 = .ok (.invokevirtual 212, 3) := by decide +kernel
theorem dX11_readLine_55 : decode cX11_readLine 55 = .ok (.iastore, 1) := by decide +kernel
theorem dX11_readLine_56 : decode cX11_readLine 56 = .ok (.goto 71, 3) := by decide +kernel
theorem dX11_readLine_59 : decode cX11_readLine 59 = .ok (.aload_n 0, 1) := by decide +kernel
theorem dX11_readLine_60 : decode cX11_readLine 60 = .ok (.ldc_w 258, 3) := by decide +kernel
theorem dX11_readLine_63 : decode cX11_readLine 63 = .ok (.invokevirtual 135, 3) := by decide +kernel
theorem dX11_readLine_66 : decode cX11_readLine 66 = .ok (.ifCond .eq 24, 3) := by decide +kernel
theorem dX11_readLine_69 : decode cX11_readLine 69 = .ok (.aload_n 0, 1) := by decide +kernel
theorem dX11_readLine_70 : decode cX11_readLine 70 = .ok (.iconst 5, 1) := by decide +kernel
theorem dX11_readLine_71 : decode cX11_readLine 71 = .ok (.sipush 459, 3) := by decide +kernel
theorem dX11_readLine_74 : decode cX11_readLine 74 = .ok (.invokevirtual 260, 3) := by decide +kernel
theorem dX11_readLine_77 : decode cX11_readLine 77 = .ok (.aload_n 0, 1) := by decide +kernel
theorem dX11_readLine_78 : decode cX11_readLine 78 = .ok (.bipush 58, 2) := by decide +kernel
theorem dX11_readLine_80 : decode cX11_readLine 80 = .ok (.invokevirtual 171, 3) := by decide +kernel
theorem dX11_readLine_83 : decode cX11_readLine 83 = .ok (.aload_n 0, 1) := by decide +kernel
theorem dX11_readLine_84 : decode cX11_readLine 84 = .ok (.invokevirtual 174, 3) := by decide +kernel
theorem dX11_readLine_87 : decode cX11_readLine 87 = .ok (.goto 40, 3) := by decide +kernel
theorem dX11_readLine_90 : decode cX11_readLine 90 = .ok (.aload_n 0, 1) := by decide +kernel
theorem dX11_readLine_91 : decode cX11_readLine 91 = .ok (.ldc_w 264, 3) := by decide +kernel
theorem dX11_readLine_94 : decode cX11_readLine 94 = .ok (.invokevirtual 135, 3) := by decide +kernel
theorem dX11_readLine_97 : decode cX11_readLine 97 = .ok (.ifCond .eq 25, 3) := by decide +kernel
theorem dX11_readLine_100 : decode cX11_readLine 100 = .ok (.aload_n 0, 1) := by decide +kernel
theorem dX11_readLine_101 : decode cX11_readLine 101 = .ok (.bipush 6, 2) := by decide +kernel
theorem dX11_readLine_103 : decode cX11_readLine 103 = .ok (.sipush 1359, 3) := by decide +kernel
theorem dX11_readLine_106 : decode cX11_readLine 106 = .ok (.invokevirtual 260, 3) := by decide +kernel
theorem dX11_readLine_109 : decode cX11_readLine 109 = .ok (.aload_n 0, 1) := by decide +kernel
theorem dX11_readLine_110 : decode cX11_readLine 110 = .ok (.bipush 58, 2) := by decide +kernel
theorem dX11_readLine_112 : decode cX11_readLine 112 = .ok (.invokevirtual 171, 3) := by decide +kernel
theorem dX11_readLine_115 : decode cX11_readLine 115 = .ok (.aload_n 0, 1) := by decide +kernel
theorem dX11_readLine_116 : decode cX11_readLine 116 = .ok (.invokevirtual 168, 3) := by decide +kernel
theorem dX11_readLine_119 : decode cX11_readLine 119 = .ok (.goto 8, 3) := by decide +kernel
theorem dX11_readLine_122 : decode cX11_readLine 122 = .ok (.aload_n 0, 1) := by decide +kernel
theorem dX11_readLine_123 : decode cX11_readLine 123 = .ok (.iconst 2, 1) := by decide +kernel
theorem dX11_readLine_124 : decode cX11_readLine 124 = .ok (.invokevirtual 127, 3) := by decide +kernel
theorem dX11_readLine_127 : decode cX11_readLine 127 = .ok (.aload_n 0, 1) := by decide +kernel
theorem dX11_readLine_128 : decode cX11_readLine 128 = .ok (.invokevirtual 266, 3) := by decide +kernel
theorem dX11_readLine_131 : decode cX11_readLine 131 = .ok (.return_, 1) := by decide +kernel
theorem dX11_district_0 : decode cX11_district 0 = .ok (.aload_n 0, 1) := by decide +kernel
theorem dX11_district_1 : decode cX11_district 1 = .ok (.iconst 0, 1) := by decide +kernel
theorem dX11_district_2 : decode cX11_district 2 = .ok (.putfield 70, 3) := by decide +kernel
theorem dX11_district_5 : decode cX11_district 5 = .ok (.iload_n 1, 1) := by decide +kernel
theorem dX11_district_6 : decode cX11_district 6 = .ok (.i2l, 1) := by decide +kernel
theorem dX11_district_7 : decode cX11_district 7 = .ok (.lconst 0, 1) := by decide +kernel
theorem dX11_district_8 : decode cX11_district 8 = .ok (.aload_n 0, 1) := by decide +kernel
theorem dX11_district_9 : decode cX11_district 9 = .ok (.getfield 73, 3) := by decide +kernel
theorem dX11_district_12 : decode cX11_district 12 = .ok (.i2l, 1) := by decide +kernel
theorem dX11_district_13 : decode cX11_district 13 = .ok (.invokestatic 131, 3) := by decide +kernel
theorem dX11_district_16 : decode cX11_district 16 = .ok (.ifCond .ne 9, 3) := by decide +kernel
theorem dX11_district_19 : decode cX11_district 19 = .ok (.aload_n 0, 1) := by decide +kernel
theorem dX11_district_20 : decode cX11_district 20 = .ok (.iconst 1, 1) := by decide +kernel
theorem dX11_district_21 : decode cX11_district 21 = .ok (.invokevirtual 269, 3) := by decide +kernel
theorem dX11_district_24 : decode cX11_district 24 = .ok (.ireturn, 1) := by decide +kernel
theorem dX11_district_25 : decode cX11_district 25 = .ok (.aload_n 0, 1) := by decide +kernel
theorem dX11_district_26 : decode cX11_district 26 = .ok (.iload_n 1, 1) := by decide +kernel
theorem dX11_district_27 : decode cX11_district 27 = .ok (.putfield 76, 3) := by decide +kernel
theorem dX11_district_30 : decode cX11_district 30 = .ok (.aload_n 0, 1) := by decide +kernel
theorem dX11_district_31 : decode cX11_district 31 = .ok (.iconst 0, 1) := by decide +kernel
theorem dX11_district_32 : decode cX11_district 32 = .ok (.putfield 73, 3) := by decide +kernel
theorem dX11_district_35 : decode cX11_district 35 = .ok (.aload_n 0, 1) := by decide +kernel
theorem dX11_district_36 : decode cX11_district 36 = .ok (.iconst 0, 1) := by decide +kernel
theorem dX11_district_37 : decode cX11_district 37 = .ok (.putfield 79, 3) := by decide +kernel
theorem dX11_district_40 : decode cX11_district 40 = .ok (.aload_n 0, 1) := by decide +kernel
theorem dX11_district_41 : decode cX11_district 41 = .ok (.iconst 0, 1) := by decide +kernel
theorem dX11_district_42 : decode cX11_district 42 = .ok (.putfield 105, 3) := by decide +kernel
theorem dX11_district_45 : decode cX11_district 45 = .ok (.aload_n 0, 1) := by decide +kernel
theorem dX11_district_46 : decode cX11_district 46 = .ok (.iconst 0, 1) := by decide +kernel
theorem dX11_district_47 : decode cX11_district 47 = .ok (.putfield 144, 3) := by decide +kernel
theorem dX11_district_50 : decode cX11_district 50 = .ok (.iconst 0, 1) := by decide +kernel
theorem dX11_district_51 : decode cX11_district 51 = .ok (.istore_n 2, 1) := by decide +kernel
theorem dX11_district_52 : decode cX11_district 52 = .ok (.iload_n 2, 1) := by decide +kernel
theorem dX11_district_53 : decode cX11_district 53 = .ok (.sipush 2260, 3) := by decide +kernel
theorem dX11_district_56 : decode cX11_district 56 = .ok (.if_icmp .ge 16, 3) := by decide +kernel
theorem dX11_district_59 : decode cX11_district 59 = .ok (.aload_n 0, 1) := by decide +kernel
theorem dX11_district_60 : decode cX11_district 60 = .ok (.getfield 13, 3) := by decide +kernel
theorem dX11_district_63 : decode cX11_district 63 = .ok (.iload_n 2, 1) := by decide +kernel
theorem dX11_district_64 : decode cX11_district 64 = .ok (.iconst 0, 1) := by decide +kernel
theorem dX11_district_65 : decode cX11_district 65 = .ok (.iastore, 1) := by decide +kernel
theorem dX11_district_66 : decode cX11_district 66 = .ok (.iinc 2 1, 3) := by decide +kernel
theorem dX11_district_69 : decode cX11_district 69 = .ok (.goto (-17), 3) := by decide +kernel
theorem dX11_district_72 : decode cX11_district 72 = .ok (.aload_n 0, 1) := by decide +kernel
theorem dX11_district_73 : decode cX11_district 73 = .ok (.invokevirtual 124, 3) := by decide +kernel
theorem dX11_district_76 : decode cX11_district 76 = .ok (.aload_n 0, 1) := by decide +kernel
theorem dX11_district_77 : decode cX11_district 77 = .ok (.ldc_w 272, 3) := by decide +kernel
theorem dX11_district_80 : decode cX11_district 80 = .ok (.invokevirtual 222, 3) := by decide +kernel
theorem dX11_district_83 : decode cX11_district 83 = .ok (.aload_n 0, 1) := by decide +kernel
theorem dX11_district_84 : decode cX11_district 84 = .ok (.getfield 13, 3) := by decide +kernel
theorem dX11_district_87 : decode cX11_district 87 = .ok (.iconst 1, 1) := by decide +kernel
theorem dX11_district_88 : decode cX11_district 88 = .ok (.aload_n 0, 1) := by decide +kernel
theorem dX11_district_89 : decode cX11_district 89 = .ok (.iconst 1, 1) := by decide +kernel
theorem dX11_district_90 : decode cX11_district 90 = .ok (.bipush 6, 2) := by decide +kernel
theorem dX11_district_92 : decode cX11_district 92 = .ok (.invokevirtual 212, 3) := by decide +kernel
theorem dX11_district_95 : decode cX11_district 95 = .ok (.iastore, 1) := by decide +kernel
theorem dX11_district_96 : decode cX11_district 96 = .ok (.aload_n 0, 1) := by decide +kernel
theorem dX11_district_97 : decode cX11_district 97 = .ok (.getfield 13, 3) := by decide +kernel
theorem dX11_district_100 : decode cX11_district 100 = .ok (.iconst 2, 1) := by decide +kernel
theorem dX11_district_101 : decode cX11_district 101 = .ok (.aload_n 0, 1) := by decide +kernel
theorem dX11_district_102 : decode cX11_district 102 = .ok (.iconst 1, 1) := by decide +kernel
theorem dX11_district_103 : decode cX11_district 103 = .ok (.bipush 9, 2) := by decide +kernel
theorem dX11_district_105 : decode cX11_district 105 = .ok (.invokevirtual 212, 3) := by decide +kernel
theorem dX11_district_108 : decode cX11_district 108 = .ok (.iastore, 1) := by decide +kernel
theorem dX11_district_109 : decode cX11_district 109 = .ok (.aload_n 0, 1) := by decide +kernel
theorem dX11_district_110 : decode cX11_district 110 = .ok (.invokevirtual 266, 3) := by decide +kernel
theorem dX11_district_113 : decode cX11_district 113 = .ok (.aload_n 0, 1) := by decide +kernel
theorem dX11_district_114 : decode cX11_district 114 = .ok (.getfield 105, 3) := by decide +kernel
theorem dX11_district_117 : decode cX11_district 117 = .ok (.ifCond .ne 17, 3) := by decide +kernel
theorem dX11_district_120 : decode cX11_district 120 = .ok (.aload_n 0, 1) := by decide +kernel
theorem dX11_district_121 : decode cX11_district 121 = .ok (.getfield 85, 3) := by decide +kernel
theorem dX11_district_124 : decode cX11_district 124 = .ok (.ifCond .eq 10, 3) := by decide +kernel
theorem dX11_district_127 : decode cX11_district 127 = .ok (.aload_n 0, 1) := by decide +kernel
theorem dX11_district_128 : decode cX11_district 128 = .ok (.invokevirtual 274, 3) := by decide +kernel
theorem dX11_district_131 : decode cX11_district 131 = .ok (.goto (-18), 3) := by decide +kernel
theorem dX11_district_134 : decode cX11_district 134 = .ok (.aload_n 0, 1) := by decide +kernel
theorem dX11_district_135 : decode cX11_district 135 = .ok (.aload_n 0, 1) := by decide +kernel
theorem dX11_district_136 : decode cX11_district 136 = .ok (.getfield 105, 3) := by decide +kernel
theorem dX11_district_139 : decode cX11_district 139 = .ok (.putfield 277, 3) := by decide +kernel
theorem dX11_district_142 : decode cX11_district 142 = .ok (.aload_n 0, 1) := by decide +kernel
theorem dX11_district_143 : decode cX11_district 143 = .ok (.aload_n 0, 1) := by decide +kernel
theorem dX11_district_144 : decode cX11_district 144 = .ok (.getfield 105, 3) := by decide +kernel
theorem dX11_district_147 : decode cX11_district 147 = .ok (.ifCond .ne 7, 3) := by decide +kernel
theorem dX11_district_150 : decode cX11_district 150 = .ok (.iconst (-1), 1) := by decide +kernel
theorem dX11_district_151 : decode cX11_district 151 = .ok (.goto 7, 3) := by decide +kernel
theorem dX11_district_154 : decode cX11_district 154 = .ok (.aload_n 0, 1) := by decide +kernel
theorem dX11_district_155 : decode cX11_district 155 = .ok (.getfield 108, 3) := by decide +kernel
theorem dX11_district_158 : decode cX11_district 158 = .ok (.putfield 26, 3) := by decide +kernel
theorem dX11_district_161 : decode cX11_district 161 = .ok (.aload_n 0, 1) := by decide +kernel
theorem dX11_district_162 : decode cX11_district 162 = .ok (.getfield 105, 3) := by decide +kernel
theorem dX11_district_165 : decode cX11_district 165 = .ok (.ifCond .eq 11, 3) := by decide +kernel
theorem dX11_district_168 : decode cX11_district 168 = .ok (.bipush (-10), 2) := by decide +kernel
theorem dX11_district_170 : decode cX11_district 170 = .ok (.aload_n 0, 1) := by decide +kernel
theorem dX11_district_171 : decode cX11_district 171 = .ok (.getfield 105, 3) := by decide +kernel
theorem dX11_district_174 : decode cX11_district 174 = .ok (.isub, 1) := by decide +kernel
theorem dX11_district_175 : decode cX11_district 175 = .ok (.ireturn, 1) := by decide +kernel
theorem dX11_district_176 : decode cX11_district 176 = .ok (.iconst 0, 1) := by decide +kernel
theorem dX11_district_177 : decode cX11_district 177 = .ok (.istore_n 2, 1) := by decide +kernel
theorem dX11_district_178 : decode cX11_district 178 = .ok (.iload_n 2, 1) := by decide +kernel
theorem dX11_district_179 : decode cX11_district 179 = .ok (.sipush 2260, 3) := by decide +kernel
theorem dX11_district_182 : decode cX11_district 182 = .ok (.if_icmp .ge 21, 3) := by decide +kernel
theorem dX11_district_185 : decode cX11_district 185 = .ok (.aload_n 0, 1) := by decide +kernel
theorem dX11_district_186 : decode cX11_district 186 = .ok (.getfield 9, 3) := by decide +kernel
theorem dX11_district_189 : decode cX11_district 189 = .ok (.iload_n 2, 1) := by decide +kernel
theorem dX11_district_190 : decode cX11_district 190 = .ok (.aload_n 0, 1) := by decide +kernel
theorem dX11_district_191 : decode cX11_district 191 = .ok (.getfield 13, 3) := by decide +kernel
theorem dX11_district_194 : decode cX11_district 194 = .ok (.iload_n 2, 1) := by decide +kernel
theorem dX11_district_195 : decode cX11_district 195 = .ok (.iaload, 1) := by decide +kernel
theorem dX11_district_196 : decode cX11_district 196 = .ok (.iastore, 1) := by decide +kernel
theorem dX11_district_197 : decode cX11_district 197 = .ok (.iinc 2 1, 3) := by decide +kernel
theorem dX11_district_200 : decode cX11_district 200 = .ok (.goto (-22), 3) := by decide +kernel
theorem dX11_district_203 : decode cX11_district 203 = .ok (.iconst 0, 1) := by decide +kernel
theorem dX11_district_204 : decode cX11_district 204 = .ok (.istore_n 2, 1) := by decide +kernel
theorem dX11_district_205 : decode cX11_district 205 = .ok (.iload_n 2, 1) := by decide +kernel
theorem dX11_district_206 : decode cX11_district 206 = .ok (.aload_n 0, 1) := by decide +kernel
theorem dX11_district_207 : decode cX11_district 207 = .ok (.invokevirtual 280, 3) := by decide +kernel
theorem dX11_district_210 : decode cX11_district 210 = .ok (.if_icmp .ge 57, 3) := by decide +kernel
theorem dX11_district_213 : decode cX11_district 213 = .ok (.aload_n 0, 1) := by decide +kernel
theorem dX11_district_214 : decode cX11_district 214 = .ok (.getfield 9, 3) := by decide +kernel
theorem dX11_district_217 : decode cX11_district 217 = .ok (.bipush 32, 2) := by decide +kernel
theorem dX11_district_219 : decode cX11_district 219 = .ok (.iload_n 2, 1) := by decide +kernel
theorem dX11_district_220 : decode cX11_district 220 = .ok (.iadd, 1) := by decide +kernel
theorem dX11_district_221 : decode cX11_district 221 = .ok (.aload_n 0, 1) := by decide +kernel
theorem dX11_district_222 : decode cX11_district 222 = .ok (.getfield 9, 3) := by decide +kernel
theorem dX11_district_225 : decode cX11_district 225 = .ok (.bipush 40, 2) := by decide +kernel
theorem dX11_district_227 : decode cX11_district 227 = .ok (.iaload, 1) := by decide +kernel
theorem dX11_district_228 : decode cX11_district 228 = .ok (.aload_n 0, 1) := by decide +kernel
theorem dX11_district_229 : decode cX11_district 229 = .ok (.iload_n 2, 1) := by decide +kernel
theorem dX11_district_230 : decode cX11_district 230 = .ok (.iconst 0, 1) := by decide +kernel
theorem dX11_district_231 : decode cX11_district 231 = .ok (.invokevirtual 283, 3) := by decide +kernel
theorem dX11_district_234 : decode cX11_district 234 = .ok (.ifCond .eq 16, 3) := by decide +kernel
theorem dX11_district_237 : decode cX11_district 237 = .ok (.aload_n 0, 1) := by decide +kernel
theorem dX11_district_238 : decode cX11_district 238 = .ok (.getfield 9, 3) := by decide +kernel
theorem dX11_district_241 : decode cX11_district 241 = .ok (.bipush 32, 2) := by decide +kernel
theorem dX11_district_243 : decode cX11_district 243 = .ok (.iload_n 2, 1) := by decide +kernel
theorem dX11_district_244 : decode cX11_district 244 = .ok (.iadd, 1) := by decide +kernel
theorem dX11_district_245 : decode cX11_district 245 = .ok (.iaload, 1) := by decide +kernel
theorem dX11_district_246 : decode cX11_district 246 = .ok (.ineg, 1) := by decide +kernel
theorem dX11_district_247 : decode cX11_district 247 = .ok (.goto 12, 3) := by decide +kernel
theorem dX11_district_250 : decode cX11_district 250 = .ok (.aload_n 0, 1) := by decide +kernel
theorem dX11_district_251 : decode cX11_district 251 = .ok (.getfield 9, 3) := by decide +kernel
theorem dX11_district_254 : decode cX11_district 254 = .ok (.bipush 32, 2) := by decide +kernel
theorem dX11_district_256 : decode cX11_district 256 = .ok (.iload_n 2, 1) := by decide +kernel
theorem dX11_district_257 : decode cX11_district 257 = .ok (.iadd, 1) := by decide +kernel
theorem dX11_district_258 : decode cX11_district 258 = .ok (.iaload, 1) := by decide +kernel
theorem dX11_district_259 : decode cX11_district 259 = .ok (.iadd, 1) := by decide +kernel
theorem dX11_district_260 : decode cX11_district 260 = .ok (.iastore, 1) := by decide +kernel
theorem dX11_district_261 : decode cX11_district 261 = .ok (.iinc 2 1, 3) := by decide +kernel
theorem dX11_district_264 : decode cX11_district 264 = .ok (.goto (-59), 3) := by decide +kernel
theorem dX11_district_267 : decode cX11_district 267 = .ok (.aload_n 0, 1) := by decide +kernel
theorem dX11_district_268 : decode cX11_district 268 = .ok (.getfield 9, 3) := by decide +kernel
theorem dX11_district_271 : decode cX11_district 271 = .ok (.iconst 0, 1) := by decide +kernel
theorem dX11_district_272 : decode cX11_district 272 = .ok (.iaload, 1) := by decide +kernel
theorem dX11_district_273 : decode cX11_district 273 = .ok (.ireturn, 1) := by decide +kernel
theorem dX11_fault_0 : decode cX11_fault 0 = .ok (.aload_n 0, 1) := by decide +kernel
theorem dX11_fault_1 : decode cX11_fault 1 = .ok (.iconst 0, 1) := by decide +kernel
theorem dX11_fault_2 : decode cX11_fault 2 = .ok (.putfield 70, 3) := by decide +kernel
theorem dX11_fault_5 : decode cX11_fault 5 = .ok (.iload_n 1, 1) := by decide +kernel
theorem dX11_fault_6 : decode cX11_fault 6 = .ok (.ifCond .ne 10, 3) := by decide +kernel
theorem dX11_fault_9 : decode cX11_fault 9 = .ok (.aload_n 0, 1) := by decide +kernel
theorem dX11_fault_10 : decode cX11_fault 10 = .ok (.getfield 277, 3) := by decide +kernel
theorem dX11_fault_13 : decode cX11_fault 13 = .ok (.goto 16, 3) := by decide +kernel
theorem dX11_fault_16 : decode cX11_fault 16 = .ok (.iload_n 1, 1) := by decide +kernel
theorem dX11_fault_17 : decode cX11_fault 17 = .ok (.iconst 1, 1) := by decide +kernel
theorem dX11_fault_18 : decode cX11_fault 18 = .ok (.if_icmp .ne 10, 3) := by decide +kernel
theorem dX11_fault_21 : decode cX11_fault 21 = .ok (.aload_n 0, 1) := by decide +kernel
theorem dX11_fault_22 : decode cX11_fault 22 = .ok (.getfield 26, 3) := by decide +kernel
theorem dX11_fault_25 : decode cX11_fault 25 = .ok (.goto 4, 3) := by decide +kernel
theorem dX11_fault_28 : decode cX11_fault 28 = .ok (.iconst (-1), 1) := by decide +kernel
theorem dX11_fault_29 : decode cX11_fault 29 = .ok (.ireturn, 1) := by decide +kernel
theorem dX11_things_0 : decode cX11_things 0 = .ok (.aload_n 0, 1) := by decide +kernel
theorem dX11_things_1 : decode cX11_things 1 = .ok (.getfield 9, 3) := by decide +kernel
theorem dX11_things_4 : decode cX11_things 4 = .ok (.iconst 3, 1) := by decide +kernel
theorem dX11_things_5 : decode cX11_things 5 = .ok (.iaload, 1) := by decide +kernel
theorem dX11_things_6 : decode cX11_things 6 = .ok (.ireturn, 1) := by decide +kernel
theorem dX11_is_0 : decode cX11_is 0 = .ok (.aload_n 0, 1) := by decide +kernel
theorem dX11_is_1 : decode cX11_is 1 = .ok (.getfield 9, 3) := by decide +kernel
theorem dX11_is_4 : decode cX11_is 4 = .ok (.bipush 8, 2) := by decide +kernel
theorem dX11_is_6 : decode cX11_is 6 = .ok (.iload_n 1, 1) := by decide +kernel
theorem dX11_is_7 : decode cX11_is 7 = .ok (.iadd, 1) := by decide +kernel
theorem dX11_is_8 : decode cX11_is 8 = .ok (.iaload, 1) := by decide +kernel
theorem dX11_is_9 : decode cX11_is 9 = .ok (.iload_n 2, 1) := by decide +kernel
theorem dX11_is_10 : decode cX11_is 10 = .ok (.if_icmp .ne 7, 3) := by decide +kernel
theorem dX11_is_13 : decode cX11_is 13 = .ok (.iconst 1, 1) := by decide +kernel
theorem dX11_is_14 : decode cX11_is 14 = .ok (.goto 4, 3) := by decide +kernel
theorem dX11_is_17 : decode cX11_is 17 = .ok (.iconst 0, 1) := by decide +kernel
theorem dX11_is_18 : decode cX11_is 18 = .ok (.ireturn, 1) := by decide +kernel
theorem dX11_isThing_0 : decode cX11_isThing 0 = .ok (.lload_n 1, 1) := by decide +kernel
theorem dX11_isThing_1 : decode cX11_isThing 1 = .ok (.lconst 0, 1) := by decide +kernel
theorem dX11_isThing_2 : decode cX11_isThing 2 = .ok (.aload_n 0, 1) := by decide +kernel
theorem dX11_isThing_3 : decode cX11_isThing 3 = .ok (.invokevirtual 280, 3) := by decide +kernel
theorem dX11_isThing_6 : decode cX11_isThing 6 = .ok (.iconst 1, 1) := by decide +kernel
theorem dX11_isThing_7 : decode cX11_isThing 7 = .ok (.isub, 1) := by decide +kernel
theorem dX11_isThing_8 : decode cX11_isThing 8 = .ok (.i2l, 1) := by decide +kernel
theorem dX11_isThing_9 : decode cX11_isThing 9 = .ok (.invokestatic 131, 3) := by decide +kernel
theorem dX11_isThing_12 : decode cX11_isThing 12 = .ok (.ireturn, 1) := by decide +kernel
theorem dX11_isColumn_0 : decode cX11_isColumn 0 = .ok (.lload_n 1, 1) := by decide +kernel
theorem dX11_isColumn_1 : decode cX11_isColumn 1 = .ok (.lconst 0, 1) := by decide +kernel
theorem dX11_isColumn_2 : decode cX11_isColumn 2 = .ok (.aload_n 0, 1) := by decide +kernel
theorem dX11_isColumn_3 : decode cX11_isColumn 3 = .ok (.getfield 9, 3) := by decide +kernel
theorem dX11_isColumn_6 : decode cX11_isColumn 6 = .ok (.iconst 1, 1) := by decide +kernel
theorem dX11_isColumn_7 : decode cX11_isColumn 7 = .ok (.iaload, 1) := by decide +kernel
theorem dX11_isColumn_8 : decode cX11_isColumn 8 = .ok (.iconst 1, 1) := by decide +kernel
theorem dX11_isColumn_9 : decode cX11_isColumn 9 = .ok (.isub, 1) := by decide +kernel
theorem dX11_isColumn_10 : decode cX11_isColumn 10 = .ok (.i2l, 1) := by decide +kernel
theorem dX11_isColumn_11 : decode cX11_isColumn 11 = .ok (.invokestatic 131, 3) := by decide +kernel
theorem dX11_isColumn_14 : decode cX11_isColumn 14 = .ok (.ireturn, 1) := by decide +kernel
theorem dX11_isPlace_0 : decode cX11_isPlace 0 = .ok (.aload_n 0, 1) := by decide +kernel
theorem dX11_isPlace_1 : decode cX11_isPlace 1 = .ok (.lload_n 1, 1) := by decide +kernel
theorem dX11_isPlace_2 : decode cX11_isPlace 2 = .ok (.invokevirtual 286, 3) := by decide +kernel
theorem dX11_isPlace_5 : decode cX11_isPlace 5 = .ok (.ifCond .eq 24, 3) := by decide +kernel
theorem dX11_isPlace_8 : decode cX11_isPlace 8 = .ok (.lload_n 3, 1) := by decide +kernel
theorem dX11_isPlace_9 : decode cX11_isPlace 9 = .ok (.lconst 0, 1) := by decide +kernel
theorem dX11_isPlace_10 : decode cX11_isPlace 10 = .ok (.aload_n 0, 1) := by decide +kernel
theorem dX11_isPlace_11 : decode cX11_isPlace 11 = .ok (.getfield 9, 3) := by decide +kernel
theorem dX11_isPlace_14 : decode cX11_isPlace 14 = .ok (.iconst 2, 1) := by decide +kernel
theorem dX11_isPlace_15 : decode cX11_isPlace 15 = .ok (.iaload, 1) := by decide +kernel
theorem dX11_isPlace_16 : decode cX11_isPlace 16 = .ok (.iconst 1, 1) := by decide +kernel
theorem dX11_isPlace_17 : decode cX11_isPlace 17 = .ok (.isub, 1) := by decide +kernel
theorem dX11_isPlace_18 : decode cX11_isPlace 18 = .ok (.i2l, 1) := by decide +kernel
theorem dX11_isPlace_19 : decode cX11_isPlace 19 = .ok (.invokestatic 131, 3) := by decide +kernel
theorem dX11_isPlace_22 : decode cX11_isPlace 22 = .ok (.ifCond .eq 7, 3) := by decide +kernel
theorem dX11_isPlace_25 : decode cX11_isPlace 25 = .ok (.iconst 1, 1) := by decide +kernel
theorem dX11_isPlace_26 : decode cX11_isPlace 26 = .ok (.goto 4, 3) := by decide +kernel
theorem dX11_isPlace_29 : decode cX11_isPlace 29 = .ok (.iconst 0, 1) := by decide +kernel
theorem dX11_isPlace_30 : decode cX11_isPlace 30 = .ok (.ireturn, 1) := by decide +kernel
theorem dX11_isWalker_0 : decode cX11_isWalker 0 = .ok (.iload_n 1, 1) := by decide +kernel
theorem dX11_isWalker_1 : decode cX11_isWalker 1 = .ok (.i2l, 1) := by decide +kernel
theorem dX11_isWalker_2 : decode cX11_isWalker 2 = .ok (.lconst 0, 1) := by decide +kernel
theorem dX11_isWalker_3 : decode cX11_isWalker 3 = .ok (.aload_n 0, 1) := by decide +kernel
theorem dX11_isWalker_4 : decode cX11_isWalker 4 = .ok (.getfield 9, 3) := by decide +kernel
theorem dX11_isWalker_7 : decode cX11_isWalker 7 = .ok (.iconst 4, 1) := by decide +kernel
theorem dX11_isWalker_8 : decode cX11_isWalker 8 = .ok (.iaload, 1) := by decide +kernel
theorem dX11_isWalker_9 : decode cX11_isWalker 9 = .ok (.iconst 1, 1) := by decide +kernel
theorem dX11_isWalker_10 : decode cX11_isWalker 10 = .ok (.isub, 1) := by decide +kernel
theorem dX11_isWalker_11 : decode cX11_isWalker 11 = .ok (.i2l, 1) := by decide +kernel
theorem dX11_isWalker_12 : decode cX11_isWalker 12 = .ok (.invokestatic 131, 3) := by decide +kernel
theorem dX11_isWalker_15 : decode cX11_isWalker 15 = .ok (.ireturn, 1) := by decide +kernel
theorem dX11_lyingIn_0 : decode cX11_lyingIn 0 = .ok (.iconst 0, 1) := by decide +kernel
theorem dX11_lyingIn_1 : decode cX11_lyingIn 1 = .ok (.istore_n 2, 1) := by decide +kernel
theorem dX11_lyingIn_2 : decode cX11_lyingIn 2 = .ok (.iconst 0, 1) := by decide +kernel
theorem dX11_lyingIn_3 : decode cX11_lyingIn 3 = .ok (.istore_n 3, 1) := by decide +kernel
theorem dX11_lyingIn_4 : decode cX11_lyingIn 4 = .ok (.iload_n 3, 1) := by decide +kernel
theorem dX11_lyingIn_5 : decode cX11_lyingIn 5 = .ok (.aload_n 0, 1) := by decide +kernel
theorem dX11_lyingIn_6 : decode cX11_lyingIn 6 = .ok (.iconst 3, 1) := by decide +kernel
theorem dX11_lyingIn_7 : decode cX11_lyingIn 7 = .ok (.iaload, 1) := by decide +kernel
theorem dX11_lyingIn_8 : decode cX11_lyingIn 8 = .ok (.if_icmp .ge 37, 3) := by decide +kernel
theorem dX11_lyingIn_11 : decode cX11_lyingIn 11 = .ok (.iload_n 2, 1) := by decide +kernel
theorem dX11_lyingIn_12 : decode cX11_lyingIn 12 = .ok (.aload_n 0, 1) := by decide +kernel
theorem dX11_lyingIn_13 : decode cX11_lyingIn 13 = .ok (.bipush 8, 2) := by decide +kernel
theorem dX11_lyingIn_15 : decode cX11_lyingIn 15 = .ok (.iload_n 3, 1) := by decide +kernel
theorem dX11_lyingIn_16 : decode cX11_lyingIn 16 = .ok (.iadd, 1) := by decide +kernel
theorem dX11_lyingIn_17 : decode cX11_lyingIn 17 = .ok (.iaload, 1) := by decide +kernel
theorem dX11_lyingIn_18 : decode cX11_lyingIn 18 = .ok (.iconst 2, 1) := by decide +kernel
theorem dX11_lyingIn_19 : decode cX11_lyingIn 19 = .ok (.if_icmp .ne 17, 3) := by decide +kernel
theorem dX11_lyingIn_22 : decode cX11_lyingIn 22 = .ok (.aload_n 0, 1) := by decide +kernel
theorem dX11_lyingIn_23 : decode cX11_lyingIn 23 = .ok (.bipush 16, 2) := by decide +kernel
theorem dX11_lyingIn_25 : decode cX11_lyingIn 25 = .ok (.iload_n 3, 1) := by decide +kernel
theorem dX11_lyingIn_26 : decode cX11_lyingIn 26 = .ok (.iadd, 1) := by decide +kernel
theorem dX11_lyingIn_27 : decode cX11_lyingIn 27 = .ok (.iaload, 1) := by decide +kernel
theorem dX11_lyingIn_28 : decode cX11_lyingIn 28 = .ok (.iload_n 1, 1) := by decide +kernel
theorem dX11_lyingIn_29 : decode cX11_lyingIn 29 = .ok (.if_icmp .ne 7, 3) := by decide +kernel
theorem dX11_lyingIn_32 : decode cX11_lyingIn 32 = .ok (.iconst 1, 1) := by decide +kernel
theorem dX11_lyingIn_33 : decode cX11_lyingIn 33 = .ok (.goto 4, 3) := by decide +kernel
theorem dX11_lyingIn_36 : decode cX11_lyingIn 36 = .ok (.iconst 0, 1) := by decide +kernel
theorem dX11_lyingIn_37 : decode cX11_lyingIn 37 = .ok (.iadd, 1) := by decide +kernel
theorem dX11_lyingIn_38 : decode cX11_lyingIn 38 = .ok (.istore_n 2, 1) := by decide +kernel
theorem dX11_lyingIn_39 : decode cX11_lyingIn 39 = .ok (.iinc 3 1, 3) := by decide +kernel
theorem dX11_lyingIn_42 : decode cX11_lyingIn 42 = .ok (.goto (-38), 3) := by decide +kernel
theorem dX11_lyingIn_45 : decode cX11_lyingIn 45 = .ok (.iload_n 2, 1) := by decide +kernel
theorem dX11_lyingIn_46 : decode cX11_lyingIn 46 = .ok (.ireturn, 1) := by decide +kernel
theorem dX11_isFreeIn_0 : decode cX11_isFreeIn 0 = .ok (.iload_n 2, 1) := by decide +kernel
theorem dX11_isFreeIn_1 : decode cX11_isFreeIn 1 = .ok (.aload_n 0, 1) := by decide +kernel
theorem dX11_isFreeIn_2 : decode cX11_isFreeIn 2 = .ok (.iconst 2, 1) := by decide +kernel
theorem dX11_isFreeIn_3 : decode cX11_isFreeIn 3 = .ok (.iaload, 1) := by decide +kernel
theorem dX11_isFreeIn_4 : decode cX11_isFreeIn 4 = .ok (.if_icmp .ge 12, 3) := by decide +kernel
theorem dX11_isFreeIn_7 : decode cX11_isFreeIn 7 = .ok (.iload_n 2, 1) := by decide +kernel
theorem dX11_isFreeIn_8 : decode cX11_isFreeIn 8 = .ok (.aload_n 0, 1) := by decide +kernel
theorem dX11_isFreeIn_9 : decode cX11_isFreeIn 9 = .ok (.iload_n 1, 1) := by decide +kernel
theorem dX11_isFreeIn_10 : decode cX11_isFreeIn 10 = .ok (.invokestatic 230, 3) := by decide +kernel
theorem dX11_isFreeIn_13 : decode cX11_isFreeIn 13 = .ok (.if_icmp .ge 5, 3) := by decide +kernel
theorem dX11_isFreeIn_16 : decode cX11_isFreeIn 16 = .ok (.iconst 0, 1) := by decide +kernel
theorem dX11_isFreeIn_17 : decode cX11_isFreeIn 17 = .ok (.ireturn, 1) := by decide +kernel
theorem dX11_isFreeIn_18 : decode cX11_isFreeIn 18 = .ok (.iconst 0, 1) := by decide +kernel
theorem dX11_isFreeIn_19 : decode cX11_isFreeIn 19 = .ok (.istore_n 3, 1) := by decide +kernel
theorem dX11_isFreeIn_20 : decode cX11_isFreeIn 20 = .ok (.iload_n 3, 1) := by decide +kernel
theorem dX11_isFreeIn_21 : decode cX11_isFreeIn 21 = .ok (.aload_n 0, 1) := by decide +kernel
theorem dX11_isFreeIn_22 : decode cX11_isFreeIn 22 = .ok (.iconst 3, 1) := by decide +kernel
theorem dX11_isFreeIn_23 : decode cX11_isFreeIn 23 = .ok (.iaload, 1) := by decide +kernel
theorem dX11_isFreeIn_24 : decode cX11_isFreeIn 24 = .ok (.if_icmp .ge 41, 3) := by decide +kernel
theorem dX11_isFreeIn_27 : decode cX11_isFreeIn 27 = .ok (.aload_n 0, 1) := by decide +kernel
theorem dX11_isFreeIn_28 : decode cX11_isFreeIn 28 = .ok (.bipush 8, 2) := by decide +kernel
theorem dX11_isFreeIn_30 : decode cX11_isFreeIn 30 = .ok (.iload_n 3, 1) := by decide +kernel
theorem dX11_isFreeIn_31 : decode cX11_isFreeIn 31 = .ok (.iadd, 1) := by decide +kernel
theorem dX11_isFreeIn_32 : decode cX11_isFreeIn 32 = .ok (.iaload, 1) := by decide +kernel
theorem dX11_isFreeIn_33 : decode cX11_isFreeIn 33 = .ok (.iconst 1, 1) := by decide +kernel
theorem dX11_isFreeIn_34 : decode cX11_isFreeIn 34 = .ok (.if_icmp .ne 25, 3) := by decide +kernel
theorem dX11_isFreeIn_37 : decode cX11_isFreeIn 37 = .ok (.aload_n 0, 1) := by decide +kernel
theorem dX11_isFreeIn_38 : decode cX11_isFreeIn 38 = .ok (.bipush 16, 2) := by decide +kernel
theorem dX11_isFreeIn_40 : decode cX11_isFreeIn 40 = .ok (.iload_n 3, 1) := by decide +kernel
theorem dX11_isFreeIn_41 : decode cX11_isFreeIn 41 = .ok (.iadd, 1) := by decide +kernel
theorem dX11_isFreeIn_42 : decode cX11_isFreeIn 42 = .ok (.iaload, 1) := by decide +kernel
theorem dX11_isFreeIn_43 : decode cX11_isFreeIn 43 = .ok (.iload_n 1, 1) := by decide +kernel
theorem dX11_isFreeIn_44 : decode cX11_isFreeIn 44 = .ok (.if_icmp .ne 15, 3) := by decide +kernel
theorem dX11_isFreeIn_47 : decode cX11_isFreeIn 47 = .ok (.aload_n 0, 1) := by decide +kernel
theorem dX11_isFreeIn_48 : decode cX11_isFreeIn 48 = .ok (.bipush 24, 2) := by decide +kernel
theorem dX11_isFreeIn_50 : decode cX11_isFreeIn 50 = .ok (.iload_n 3, 1) := by decide +kernel
theorem dX11_isFreeIn_51 : decode cX11_isFreeIn 51 = .ok (.iadd, 1) := by decide +kernel
theorem dX11_isFreeIn_52 : decode cX11_isFreeIn 52 = .ok (.iaload, 1) := by decide +kernel
theorem dX11_isFreeIn_53 : decode cX11_isFreeIn 53 = .ok (.iload_n 2, 1) := by decide +kernel
theorem dX11_isFreeIn_54 : decode cX11_isFreeIn 54 = .ok (.if_icmp .ne 5, 3) := by decide +kernel
theorem dX11_isFreeIn_57 : decode cX11_isFreeIn 57 = .ok (.iconst 0, 1) := by decide +kernel
theorem dX11_isFreeIn_58 : decode cX11_isFreeIn 58 = .ok (.ireturn, 1) := by decide +kernel
theorem dX11_isFreeIn_59 : decode cX11_isFreeIn 59 = .ok (.iinc 3 1, 3) := by decide +kernel
theorem dX11_isFreeIn_62 : decode cX11_isFreeIn 62 = .ok (.goto (-42), 3) := by decide +kernel
theorem dX11_isFreeIn_65 : decode cX11_isFreeIn 65 = .ok (.iconst 1, 1) := by decide +kernel
theorem dX11_isFreeIn_66 : decode cX11_isFreeIn 66 = .ok (.ireturn, 1) := by decide +kernel
theorem dX11_lying_0 : decode cX11_lying 0 = .ok (.aload_n 0, 1) := by decide +kernel
theorem dX11_lying_1 : decode cX11_lying 1 = .ok (.getfield 9, 3) := by decide +kernel
theorem dX11_lying_4 : decode cX11_lying 4 = .ok (.iload_n 1, 1) := by decide +kernel
theorem dX11_lying_5 : decode cX11_lying 5 = .ok (.invokestatic 230, 3) := by decide +kernel
theorem dX11_lying_8 : decode cX11_lying 8 = .ok (.ireturn, 1) := by decide +kernel
theorem dX11_walks_0 : decode cX11_walks 0 = .ok (.aload_n 0, 1) := by decide +kernel
theorem dX11_walks_1 : decode cX11_walks 1 = .ok (.getfield 9, 3) := by decide +kernel
theorem dX11_walks_4 : decode cX11_walks 4 = .ok (.bipush 57, 2) := by decide +kernel
theorem dX11_walks_6 : decode cX11_walks 6 = .ok (.bipush 8, 2) := by decide +kernel
theorem dX11_walks_8 : decode cX11_walks 8 = .ok (.iload_n 1, 1) := by decide +kernel
theorem dX11_walks_9 : decode cX11_walks 9 = .ok (.imul, 1) := by decide +kernel
theorem dX11_walks_10 : decode cX11_walks 10 = .ok (.iadd, 1) := by decide +kernel
theorem dX11_walks_11 : decode cX11_walks 11 = .ok (.iload_n 2, 1) := by decide +kernel
theorem dX11_walks_12 : decode cX11_walks 12 = .ok (.aload_n 0, 1) := by decide +kernel
theorem dX11_walks_13 : decode cX11_walks 13 = .ok (.getfield 9, 3) := by decide +kernel
theorem dX11_walks_16 : decode cX11_walks 16 = .ok (.bipush 53, 2) := by decide +kernel
theorem dX11_walks_18 : decode cX11_walks 18 = .ok (.iload_n 1, 1) := by decide +kernel
theorem dX11_walks_19 : decode cX11_walks 19 = .ok (.iadd, 1) := by decide +kernel
theorem dX11_walks_20 : decode cX11_walks 20 = .ok (.iaload, 1) := by decide +kernel
theorem dX11_walks_21 : decode cX11_walks 21 = .ok (.irem, 1) := by decide +kernel
theorem dX11_walks_22 : decode cX11_walks 22 = .ok (.iadd, 1) := by decide +kernel
theorem dX11_walks_23 : decode cX11_walks 23 = .ok (.iaload, 1) := by decide +kernel
theorem dX11_walks_24 : decode cX11_walks 24 = .ok (.ireturn, 1) := by decide +kernel
theorem dX11_bound_0 : decode cX11_bound 0 = .ok (.ldc2_w 290, 3) := by decide +kernel
theorem dX11_bound_3 : decode cX11_bound 3 = .ok (.ldc2_w 292, 3) := by decide +kernel
theorem dX11_bound_6 : decode cX11_bound 6 = .ok (.lload_n 0, 1) := by decide +kernel
theorem dX11_bound_7 : decode cX11_bound 7 = .ok (.invokestatic 294, 3) := by decide +kernel
theorem dX11_bound_10 : decode cX11_bound 10 = .ok (.invokestatic 300, 3) := by decide +kernel
theorem dX11_bound_13 : decode cX11_bound 13 = .ok (.l2i, 1) := by decide +kernel
theorem dX11_bound_14 : decode cX11_bound 14 = .ok (.ireturn, 1) := by decide +kernel
theorem dX11_done_0 : decode cX11_done 0 = .ok (.iload_n 0, 1) := by decide +kernel
theorem dX11_done_1 : decode cX11_done 1 = .ok (.tableswitch 114 10 16 #[43, 50, 57, 64, 76, 88, 100], 43) := by decide +kernel
theorem dX11_done_44 : decode cX11_done 44 = .ok (.lload_n 1, 1) := by decide +kernel
theorem dX11_done_45 : decode cX11_done 45 = .ok (.lload_n 3, 1) := by decide +kernel
theorem dX11_done_46 : decode cX11_done 46 = .ok (.ladd, 1) := by decide +kernel
theorem dX11_done_47 : decode cX11_done 47 = .ok (.invokestatic 303, 3) := by decide +kernel
theorem dX11_done_50 : decode cX11_done 50 = .ok (.ireturn, 1) := by decide +kernel
theorem dX11_done_51 : decode cX11_done 51 = .ok (.lload_n 1, 1) := by decide +kernel
theorem dX11_done_52 : decode cX11_done 52 = .ok (.lload_n 3, 1) := by decide +kernel
theorem dX11_done_53 : decode cX11_done 53 = .ok (.lsub, 1) := by decide +kernel
theorem dX11_done_54 : decode cX11_done 54 = .ok (.invokestatic 303, 3) := by decide +kernel
