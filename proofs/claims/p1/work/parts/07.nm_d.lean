theorem dX10_image_59 : decode cX10_image 59 = .ok (.getfield 64, 3) := by decide +kernel
theorem dX10_image_62 : decode cX10_image 62 = .ok (.invokevirtual 394, 3) := by decide +kernel
theorem dX10_image_65 : decode cX10_image 65 = .ok (.return_, 1) := by decide +kernel
theorem dX10_restore_0 : decode cX10_restore 0 = .ok (.iload_n 1, 1) := by decide +kernel
theorem dX10_restore_1 : decode cX10_restore 1 = .ok (.invokestatic 388, 3) := by decide +kernel
theorem dX10_restore_4 : decode cX10_restore 4 = .ok (.aload_n 0, 1) := by decide +kernel
theorem dX10_restore_5 : decode cX10_restore 5 = .ok (.getfield 38, 3) := by decide +kernel
theorem dX10_restore_8 : decode cX10_restore 8 = .ok (.iload_n 1, 1) := by decide +kernel
theorem dX10_restore_9 : decode cX10_restore 9 = .ok (.aaload, 1) := by decide +kernel
theorem dX10_restore_10 : decode cX10_restore 10 = .ok (.astore_n 2, 1) := by decide +kernel
theorem dX10_restore_11 : decode cX10_restore 11 = .ok (.aload_n 2, 1) := by decide +kernel
theorem dX10_restore_12 : decode cX10_restore 12 = .ok (.ifnonnull 14, 3) := by decide +kernel
theorem dX10_restore_15 : decode cX10_restore 15 = .ok (.new 307, 3) := by decide +kernel
theorem dX10_restore_18 : decode cX10_restore 18 = .ok (.dup, 1) := by decide +kernel
theorem dX10_restore_19 : decode cX10_restore 19 = .ok (.ldc_w 397, 3) := by decide +kernel
theorem dX10_restore_22 : decode cX10_restore 22 = .ok (.invokespecial 311, 3) := by decide +kernel
theorem dX10_restore_25 : decode cX10_restore 25 = .ok (.athrow, 1) := by decide +kernel
theorem dX10_count_0 : decode cX10_count 0 = .ok (.aload_n 0, 1) := by decide +kernel
theorem dX10_count_1 : decode cX10_count 1 = .ok (.getfield 57, 3) := by decide +kernel
theorem dX10_count_4 : decode cX10_count 4 = .ok (.getfield 113, 3) := by decide +kernel
theorem dX10_count_7 : decode cX10_count 7 = .ok (.astore_n 2, 1) := by decide +kernel
theorem dX10_count_8 : decode cX10_count 8 = .ok (.iload_n 1, 1) := by decide +kernel
theorem dX10_count_9 : decode cX10_count 9 = .ok (.tableswitch 144 0 11 #[63, 68, 73, 78, 83, 92, 101, 110, 115, 123, 131, 136], 63) := by decide +kernel
theorem dX10_count_72 : decode cX10_count 72 = .ok (.aload_n 2, 1) := by decide +kernel
theorem dX10_count_73 : decode cX10_count 73 = .ok (.getfield 117, 3) := by decide +kernel
theorem dX10_count_76 : decode cX10_count 76 = .ok (.ireturn, 1) := by decide +kernel
theorem dX10_count_77 : decode cX10_count 77 = .ok (.aload_n 2, 1) := by decide +kernel
theorem dX10_count_78 : decode cX10_count 78 = .ok (.getfield 191, 3) := by decide +kernel
theorem dX10_count_81 : decode cX10_count 81 = .ok (.ireturn, 1) := by decide +kernel
theorem dX10_count_82 : decode cX10_count 82 = .ok (.aload_n 2, 1) := by decide +kernel
theorem dX10_count_83 : decode cX10_count 83 = .ok (.getfield 271, 3) := by decide +kernel
theorem dX10_count_86 : decode cX10_count 86 = .ok (.ireturn, 1) := by decide +kernel
theorem dX10_count_87 : decode cX10_count 87 = .ok (.aload_n 2, 1) := by decide +kernel
theorem dX10_count_88 : decode cX10_count 88 = .ok (.getfield 178, 3) := by decide +kernel
theorem dX10_count_91 : decode cX10_count 91 = .ok (.ireturn, 1) := by decide +kernel
theorem dX10_count_92 : decode cX10_count 92 = .ok (.aload_n 0, 1) := by decide +kernel
theorem dX10_count_93 : decode cX10_count 93 = .ok (.getfield 57, 3) := by decide +kernel
theorem dX10_count_96 : decode cX10_count 96 = .ok (.iconst 0, 1) := by decide +kernel
theorem dX10_count_97 : decode cX10_count 97 = .ok (.invokevirtual 256, 3) := by decide +kernel
theorem dX10_count_100 : decode cX10_count 100 = .ok (.ireturn, 1) := by decide +kernel
theorem dX10_count_101 : decode cX10_count 101 = .ok (.aload_n 0, 1) := by decide +kernel
theorem dX10_count_102 : decode cX10_count 102 = .ok (.getfield 57, 3) := by decide +kernel
theorem dX10_count_105 : decode cX10_count 105 = .ok (.iconst 1, 1) := by decide +kernel
theorem dX10_count_106 : decode cX10_count 106 = .ok (.invokevirtual 256, 3) := by decide +kernel
theorem dX10_count_109 : decode cX10_count 109 = .ok (.ireturn, 1) := by decide +kernel
theorem dX10_count_110 : decode cX10_count 110 = .ok (.aload_n 0, 1) := by decide +kernel
theorem dX10_count_111 : decode cX10_count 111 = .ok (.getfield 57, 3) := by decide +kernel
theorem dX10_count_114 : decode cX10_count 114 = .ok (.iconst 2, 1) := by decide +kernel
theorem dX10_count_115 : decode cX10_count 115 = .ok (.invokevirtual 256, 3) := by decide +kernel
theorem dX10_count_118 : decode cX10_count 118 = .ok (.ireturn, 1) := by decide +kernel
theorem dX10_count_119 : decode cX10_count 119 = .ok (.aload_n 2, 1) := by decide +kernel
theorem dX10_count_120 : decode cX10_count 120 = .ok (.getfield 186, 3) := by decide +kernel
theorem dX10_count_123 : decode cX10_count 123 = .ok (.ireturn, 1) := by decide +kernel
theorem dX10_count_124 : decode cX10_count 124 = .ok (.aload_n 0, 1) := by decide +kernel
theorem dX10_count_125 : decode cX10_count 125 = .ok (.getfield 57, 3) := by decide +kernel
theorem dX10_count_128 : decode cX10_count 128 = .ok (.getfield 135, 3) := by decide +kernel
theorem dX10_count_131 : decode cX10_count 131 = .ok (.ireturn, 1) := by decide +kernel
theorem dX10_count_132 : decode cX10_count 132 = .ok (.aload_n 0, 1) := by decide +kernel
theorem dX10_count_133 : decode cX10_count 133 = .ok (.getfield 64, 3) := by decide +kernel
theorem dX10_count_136 : decode cX10_count 136 = .ok (.getfield 227, 3) := by decide +kernel
theorem dX10_count_139 : decode cX10_count 139 = .ok (.ireturn, 1) := by decide +kernel
theorem dX10_count_140 : decode cX10_count 140 = .ok (.aload_n 0, 1) := by decide +kernel
theorem dX10_count_141 : decode cX10_count 141 = .ok (.getfield 76, 3) := by decide +kernel
theorem dX10_count_144 : decode cX10_count 144 = .ok (.ireturn, 1) := by decide +kernel
theorem dX10_count_145 : decode cX10_count 145 = .ok (.aload_n 0, 1) := by decide +kernel
theorem dX10_count_146 : decode cX10_count 146 = .ok (.getfield 57, 3) := by decide +kernel
theorem dX10_count_149 : decode cX10_count 149 = .ok (.invokevirtual 259, 3) := by decide +kernel
theorem dX10_count_152 : decode cX10_count 152 = .ok (.ireturn, 1) := by decide +kernel
theorem dX10_count_153 : decode cX10_count 153 = .ok (.iconst (-1), 1) := by decide +kernel
theorem dX10_count_154 : decode cX10_count 154 = .ok (.ireturn, 1) := by decide +kernel
theorem dX10_anyTray_0 : decode cX10_anyTray 0 = .ok (.iload_n 1, 1) := by decide +kernel
theorem dX10_anyTray_1 : decode cX10_anyTray 1 = .ok (.ifCond .lt 8, 3) := by decide +kernel
theorem dX10_anyTray_4 : decode cX10_anyTray 4 = .ok (.iload_n 1, 1) := by decide +kernel
theorem dX10_anyTray_5 : decode cX10_anyTray 5 = .ok (.iconst 4, 1) := by decide +kernel
theorem dX10_anyTray_6 : decode cX10_anyTray 6 = .ok (.if_icmp .lt 14, 3) := by decide +kernel
theorem dX10_anyTray_9 : decode cX10_anyTray 9 = .ok (.new 181, 3) := by decide +kernel
theorem dX10_anyTray_12 : decode cX10_anyTray 12 = .ok (.dup, 1) := by decide +kernel
theorem dX10_anyTray_13 : decode cX10_anyTray 13 = .ok (.ldc_w 399, 3) := by decide +kernel
theorem dX10_anyTray_16 : decode cX10_anyTray 16 = .ok (.invokespecial 185, 3) := by decide +kernel
theorem dX10_anyTray_19 : decode cX10_anyTray 19 = .ok (.athrow, 1) := by decide +kernel
theorem dX10_anyTray_20 : decode cX10_anyTray 20 = .ok (.aload_n 0, 1) := by decide +kernel
theorem dX10_anyTray_21 : decode cX10_anyTray 21 = .ok (.getfield 32, 3) := by decide +kernel
theorem dX10_anyTray_24 : decode cX10_anyTray 24 = .ok (.iload_n 1, 1) := by decide +kernel
theorem dX10_anyTray_25 : decode cX10_anyTray 25 = .ok (.aaload, 1) := by decide +kernel
theorem dX10_anyTray_26 : decode cX10_anyTray 26 = .ok (.areturn, 1) := by decide +kernel
theorem dX10_filledTray_0 : decode cX10_filledTray 0 = .ok (.aload_n 0, 1) := by decide +kernel
theorem dX10_filledTray_1 : decode cX10_filledTray 1 = .ok (.iload_n 1, 1) := by decide +kernel
theorem dX10_filledTray_2 : decode cX10_filledTray 2 = .ok (.invokevirtual 373, 3) := by decide +kernel
theorem dX10_filledTray_5 : decode cX10_filledTray 5 = .ok (.astore_n 2, 1) := by decide +kernel
theorem dX10_filledTray_6 : decode cX10_filledTray 6 = .ok (.aload_n 2, 1) := by decide +kernel
theorem dX10_filledTray_7 : decode cX10_filledTray 7 = .ok (.getfield 401, 3) := by decide +kernel
theorem dX10_filledTray_10 : decode cX10_filledTray 10 = .ok (.iconst (-1), 1) := by decide +kernel
theorem dX10_filledTray_11 : decode cX10_filledTray 11 = .ok (.if_icmp .ne 14, 3) := by decide +kernel
theorem dX10_filledTray_14 : decode cX10_filledTray 14 = .ok (.new 307, 3) := by decide +kernel
theorem dX10_filledTray_17 : decode cX10_filledTray 17 = .ok (.dup, 1) := by decide +kernel
theorem dX10_filledTray_18 : decode cX10_filledTray 18 = .ok (.ldc_w 404, 3) := by decide +kernel
theorem dX10_filledTray_21 : decode cX10_filledTray 21 = .ok (.invokespecial 311, 3) := by decide +kernel
theorem dX10_filledTray_24 : decode cX10_filledTray 24 = .ok (.athrow, 1) := by decide +kernel
theorem dX10_needImage_0 : decode cX10_needImage 0 = .ok (.iload_n 0, 1) := by decide +kernel
theorem dX10_needImage_1 : decode cX10_needImage 1 = .ok (.ifCond .lt 8, 3) := by decide +kernel
theorem dX10_needImage_4 : decode cX10_needImage 4 = .ok (.iload_n 0, 1) := by decide +kernel
theorem dX10_needImage_5 : decode cX10_needImage 5 = .ok (.iconst 3, 1) := by decide +kernel
theorem dX10_needImage_6 : decode cX10_needImage 6 = .ok (.if_icmp .lt 14, 3) := by decide +kernel
theorem dX10_needImage_9 : decode cX10_needImage 9 = .ok (.new 181, 3) := by decide +kernel
theorem dX10_needImage_12 : decode cX10_needImage 12 = .ok (.dup, 1) := by decide +kernel
theorem dX10_needImage_13 : decode cX10_needImage 13 = .ok (.ldc_w 406, 3) := by decide +kernel
theorem dX10_needImage_16 : decode cX10_needImage 16 = .ok (.invokespecial 185, 3) := by decide +kernel
theorem dX10_needImage_19 : decode cX10_needImage 19 = .ok (.athrow, 1) := by decide +kernel
theorem dX10_needImage_20 : decode cX10_needImage 20 = .ok (.return_, 1) := by decide +kernel
theorem dX11_init_0 : decode cX11_init 0 = .ok (.aload_n 0, 1) := by decide +kernel
theorem dX11_init_1 : decode cX11_init 1 = .ok (.invokespecial 1, 3) := by decide +kernel
theorem dX11_init_4 : decode cX11_init 4 = .ok (.aload_n 0, 1) := by decide +kernel
theorem dX11_init_5 : decode cX11_init 5 = .ok (.sipush 2260, 3) := by decide +kernel
theorem dX11_init_8 : decode cX11_init 8 = .ok (.newarray .int, 2) := by decide +kernel
theorem dX11_init_10 : decode cX11_init 10 = .ok (.putfield 9, 3) := by decide +kernel
theorem dX11_init_13 : decode cX11_init 13 = .ok (.aload_n 0, 1) := by decide +kernel
theorem dX11_init_14 : decode cX11_init 14 = .ok (.sipush 2260, 3) := by decide +kernel
theorem dX11_init_17 : decode cX11_init 17 = .ok (.newarray .int, 2) := by decide +kernel
theorem dX11_init_19 : decode cX11_init 19 = .ok (.putfield 13, 3) := by decide +kernel
theorem dX11_init_22 : decode cX11_init 22 = .ok (.aload_n 0, 1) := by decide +kernel
theorem dX11_init_23 : decode cX11_init 23 = .ok (.sipush 6780, 3) := by decide +kernel
theorem dX11_init_26 : decode cX11_init 26 = .ok (.newarray .int, 2) := by decide +kernel
theorem dX11_init_28 : decode cX11_init 28 = .ok (.putfield 16, 3) := by decide +kernel
theorem dX11_init_31 : decode cX11_init 31 = .ok (.aload_n 0, 1) := by decide +kernel
theorem dX11_init_32 : decode cX11_init 32 = .ok (.iconst 3, 1) := by decide +kernel
theorem dX11_init_33 : decode cX11_init 33 = .ok (.newarray .boolean, 2) := by decide +kernel
theorem dX11_init_35 : decode cX11_init 35 = .ok (.putfield 19, 3) := by decide +kernel
theorem dX11_init_38 : decode cX11_init 38 = .ok (.aload_n 0, 1) := by decide +kernel
theorem dX11_init_39 : decode cX11_init 39 = .ok (.sipush 900, 3) := by decide +kernel
theorem dX11_init_42 : decode cX11_init 42 = .ok (.newarray .int, 2) := by decide +kernel
theorem dX11_init_44 : decode cX11_init 44 = .ok (.putfield 23, 3) := by decide +kernel
theorem dX11_init_47 : decode cX11_init 47 = .ok (.aload_n 0, 1) := by decide +kernel
theorem dX11_init_48 : decode cX11_init 48 = .ok (.iconst (-1), 1) := by decide +kernel
theorem dX11_init_49 : decode cX11_init 49 = .ok (.putfield 26, 3) := by decide +kernel
theorem dX11_init_52 : decode cX11_init 52 = .ok (.aload_n 0, 1) := by decide +kernel
theorem dX11_init_53 : decode cX11_init 53 = .ok (.bipush 64, 2) := by decide +kernel
theorem dX11_init_55 : decode cX11_init 55 = .ok (.newarray .int, 2) := by decide +kernel
theorem dX11_init_57 : decode cX11_init 57 = .ok (.putfield 30, 3) := by decide +kernel
theorem dX11_init_60 : decode cX11_init 60 = .ok (.aload_n 0, 1) := by decide +kernel
theorem dX11_init_61 : decode cX11_init 61 = .ok (.bipush 6, 2) := by decide +kernel
theorem dX11_init_63 : decode cX11_init 63 = .ok (.newarray .int, 2) := by decide +kernel
theorem dX11_init_65 : decode cX11_init 65 = .ok (.putfield 33, 3) := by decide +kernel
theorem dX11_init_68 : decode cX11_init 68 = .ok (.aload_n 0, 1) := by decide +kernel
theorem dX11_init_69 : decode cX11_init 69 = .ok (.bipush 37, 2) := by decide +kernel
theorem dX11_init_71 : decode cX11_init 71 = .ok (.newarray .int, 2) := by decide +kernel
theorem dX11_init_73 : decode cX11_init 73 = .ok (.putfield 36, 3) := by decide +kernel
theorem dX11_init_76 : decode cX11_init 76 = .ok (.aload_n 0, 1) := by decide +kernel
theorem dX11_init_77 : decode cX11_init 77 = .ok (.bipush 61, 2) := by decide +kernel
theorem dX11_init_79 : decode cX11_init 79 = .ok (.newarray .int, 2) := by decide +kernel
theorem dX11_init_81 : decode cX11_init 81 = .ok (.putfield 39, 3) := by decide +kernel
theorem dX11_init_84 : decode cX11_init 84 = .ok (.aload_n 0, 1) := by decide +kernel
theorem dX11_init_85 : decode cX11_init 85 = .ok (.bipush 61, 2) := by decide +kernel
theorem dX11_init_87 : decode cX11_init 87 = .ok (.newarray .int, 2) := by decide +kernel
theorem dX11_init_89 : decode cX11_init 89 = .ok (.putfield 42, 3) := by decide +kernel
theorem dX11_init_92 : decode cX11_init 92 = .ok (.aload_n 0, 1) := by decide +kernel
theorem dX11_init_93 : decode cX11_init 93 = .ok (.bipush 61, 2) := by decide +kernel
theorem dX11_init_95 : decode cX11_init 95 = .ok (.newarray .int, 2) := by decide +kernel
theorem dX11_init_97 : decode cX11_init 97 = .ok (.putfield 45, 3) := by decide +kernel
theorem dX11_init_100 : decode cX11_init 100 = .ok (.aload_n 0, 1) := by decide +kernel
theorem dX11_init_101 : decode cX11_init 101 = .ok (.bipush 61, 2) := by decide +kernel
theorem dX11_init_103 : decode cX11_init 103 = .ok (.newarray .int, 2) := by decide +kernel
theorem dX11_init_105 : decode cX11_init 105 = .ok (.putfield 48, 3) := by decide +kernel
theorem dX11_init_108 : decode cX11_init 108 = .ok (.aload_n 0, 1) := by decide +kernel
theorem dX11_init_109 : decode cX11_init 109 = .ok (.bipush 61, 2) := by decide +kernel
theorem dX11_init_111 : decode cX11_init 111 = .ok (.newarray .int, 2) := by decide +kernel
theorem dX11_init_113 : decode cX11_init 113 = .ok (.putfield 51, 3) := by decide +kernel
theorem dX11_init_116 : decode cX11_init 116 = .ok (.aload_n 0, 1) := by decide +kernel
theorem dX11_init_117 : decode cX11_init 117 = .ok (.bipush 6, 2) := by decide +kernel
theorem dX11_init_119 : decode cX11_init 119 = .ok (.newarray .long, 2) := by decide +kernel
theorem dX11_init_121 : decode cX11_init 121 = .ok (.putfield 54, 3) := by decide +kernel
theorem dX11_init_124 : decode cX11_init 124 = .ok (.aload_n 0, 1) := by decide +kernel
theorem dX11_init_125 : decode cX11_init 125 = .ok (.bipush 6, 2) := by decide +kernel
theorem dX11_init_127 : decode cX11_init 127 = .ok (.newarray .long, 2) := by decide +kernel
theorem dX11_init_129 : decode cX11_init 129 = .ok (.putfield 58, 3) := by decide +kernel
theorem dX11_init_132 : decode cX11_init 132 = .ok (.aload_n 0, 1) := by decide +kernel
theorem dX11_init_133 : decode cX11_init 133 = .ok (.iconst 4, 1) := by decide +kernel
theorem dX11_init_134 : decode cX11_init 134 = .ok (.newarray .int, 2) := by decide +kernel
theorem dX11_init_136 : decode cX11_init 136 = .ok (.dup, 1) := by decide +kernel
theorem dX11_init_137 : decode cX11_init 137 = .ok (.iconst 0, 1) := by decide +kernel
theorem dX11_init_138 : decode cX11_init 138 = .ok (.iconst (-1), 1) := by decide +kernel
theorem dX11_init_139 : decode cX11_init 139 = .ok (.iastore, 1) := by decide +kernel
theorem dX11_init_140 : decode cX11_init 140 = .ok (.dup, 1) := by decide +kernel
theorem dX11_init_141 : decode cX11_init 141 = .ok (.iconst 1, 1) := by decide +kernel
theorem dX11_init_142 : decode cX11_init 142 = .ok (.iconst (-1), 1) := by decide +kernel
theorem dX11_init_143 : decode cX11_init 143 = .ok (.iastore, 1) := by decide +kernel
theorem dX11_init_144 : decode cX11_init 144 = .ok (.dup, 1) := by decide +kernel
theorem dX11_init_145 : decode cX11_init 145 = .ok (.iconst 2, 1) := by decide +kernel
theorem dX11_init_146 : decode cX11_init 146 = .ok (.iconst (-1), 1) := by decide +kernel
theorem dX11_init_147 : decode cX11_init 147 = .ok (.iastore, 1) := by decide +kernel
theorem dX11_init_148 : decode cX11_init 148 = .ok (.dup, 1) := by decide +kernel
theorem dX11_init_149 : decode cX11_init 149 = .ok (.iconst 3, 1) := by decide +kernel
theorem dX11_init_150 : decode cX11_init 150 = .ok (.iconst (-1), 1) := by decide +kernel
theorem dX11_init_151 : decode cX11_init 151 = .ok (.iastore, 1) := by decide +kernel
theorem dX11_init_152 : decode cX11_init 152 = .ok (.putfield 61, 3) := by decide +kernel
theorem dX11_init_155 : decode cX11_init 155 = .ok (.aload_n 0, 1) := by decide +kernel
theorem dX11_init_156 : decode cX11_init 156 = .ok (.iconst 4, 1) := by decide +kernel
theorem dX11_init_157 : decode cX11_init 157 = .ok (.newarray .int, 2) := by decide +kernel
theorem dX11_init_159 : decode cX11_init 159 = .ok (.putfield 64, 3) := by decide +kernel
theorem dX11_init_162 : decode cX11_init 162 = .ok (.aload_n 0, 1) := by decide +kernel
theorem dX11_init_163 : decode cX11_init 163 = .ok (.bipush 120, 2) := by decide +kernel
theorem dX11_init_165 : decode cX11_init 165 = .ok (.newarray .long, 2) := by decide +kernel
theorem dX11_init_167 : decode cX11_init 167 = .ok (.putfield 67, 3) := by decide +kernel
theorem dX11_init_170 : decode cX11_init 170 = .ok (.aload_n 0, 1) := by decide +kernel
theorem dX11_init_171 : decode cX11_init 171 = .ok (.getfield 9, 3) := by decide +kernel
theorem dX11_init_174 : decode cX11_init 174 = .ok (.iconst 1, 1) := by decide +kernel
theorem dX11_init_175 : decode cX11_init 175 = .ok (.iconst 1, 1) := by decide +kernel
theorem dX11_init_176 : decode cX11_init 176 = .ok (.iastore, 1) := by decide +kernel
theorem dX11_init_177 : decode cX11_init 177 = .ok (.aload_n 0, 1) := by decide +kernel
theorem dX11_init_178 : decode cX11_init 178 = .ok (.getfield 9, 3) := by decide +kernel
theorem dX11_init_181 : decode cX11_init 181 = .ok (.iconst 2, 1) := by decide +kernel
theorem dX11_init_182 : decode cX11_init 182 = .ok (.iconst 1, 1) := by decide +kernel
theorem dX11_init_183 : decode cX11_init 183 = .ok (.iastore, 1) := by decide +kernel
theorem dX11_init_184 : decode cX11_init 184 = .ok (.return_, 1) := by decide +kernel
theorem dX11_thrown_0 : decode cX11_thrown 0 = .ok (.aload_n 0, 1) := by decide +kernel
theorem dX11_thrown_1 : decode cX11_thrown 1 = .ok (.getfield 70, 3) := by decide +kernel
theorem dX11_thrown_4 : decode cX11_thrown 4 = .ok (.ireturn, 1) := by decide +kernel
theorem dX11_fails_0 : decode cX11_fails 0 = .ok (.aload_n 0, 1) := by decide +kernel
theorem dX11_fails_1 : decode cX11_fails 1 = .ok (.iload_n 1, 1) := by decide +kernel
theorem dX11_fails_2 : decode cX11_fails 2 = .ok (.putfield 70, 3) := by decide +kernel
theorem dX11_fails_5 : decode cX11_fails 5 = .ok (.iconst 0, 1) := by decide +kernel
theorem dX11_fails_6 : decode cX11_fails 6 = .ok (.ireturn, 1) := by decide +kernel
theorem dX11_within_0 : decode cX11_within 0 = .ok (.lload_n 0, 1) := by decide +kernel
theorem dX11_within_1 : decode cX11_within 1 = .ok (.lload_n 2, 1) := by decide +kernel
theorem dX11_within_2 : decode cX11_within 2 = .ok (.lcmp, 1) := by decide +kernel
theorem dX11_within_3 : decode cX11_within 3 = .ok (.ifCond .lt 14, 3) := by decide +kernel
theorem dX11_within_6 : decode cX11_within 6 = .ok (.lload_n 0, 1) := by decide +kernel
theorem dX11_within_7 : decode cX11_within 7 = .ok (.lload 4, 2) := by decide +kernel
theorem dX11_within_9 : decode cX11_within 9 = .ok (.lcmp, 1) := by decide +kernel
theorem dX11_within_10 : decode cX11_within 10 = .ok (.ifCond .gt 7, 3) := by decide +kernel
theorem dX11_within_13 : decode cX11_within 13 = .ok (.iconst 1, 1) := by decide +kernel
theorem dX11_within_14 : decode cX11_within 14 = .ok (.goto 4, 3) := by decide +kernel
theorem dX11_within_17 : decode cX11_within 17 = .ok (.iconst 0, 1) := by decide +kernel
theorem dX11_within_18 : decode cX11_within 18 = .ok (.ireturn, 1) := by decide +kernel
theorem dX11_has_0 : decode cX11_has 0 = .ok (.iload_n 0, 1) := by decide +kernel
theorem dX11_has_1 : decode cX11_has 1 = .ok (.iload_n 1, 1) := by decide +kernel
theorem dX11_has_2 : decode cX11_has 2 = .ok (.ishr, 1) := by decide +kernel
theorem dX11_has_3 : decode cX11_has 3 = .ok (.iconst 1, 1) := by decide +kernel
theorem dX11_has_4 : decode cX11_has 4 = .ok (.iand, 1) := by decide +kernel
theorem dX11_has_5 : decode cX11_has 5 = .ok (.iconst 1, 1) := by decide +kernel
theorem dX11_has_6 : decode cX11_has 6 = .ok (.if_icmp .ne 7, 3) := by decide +kernel
theorem dX11_has_9 : decode cX11_has 9 = .ok (.iconst 1, 1) := by decide +kernel
theorem dX11_has_10 : decode cX11_has 10 = .ok (.goto 4, 3) := by decide +kernel
theorem dX11_has_13 : decode cX11_has 13 = .ok (.iconst 0, 1) := by decide +kernel
theorem dX11_has_14 : decode cX11_has 14 = .ok (.ireturn, 1) := by decide +kernel
theorem dX11_size_0 : decode cX11_size 0 = .ok (.iconst 0, 1) := by decide +kernel
theorem dX11_size_1 : decode cX11_size 1 = .ok (.istore_n 1, 1) := by decide +kernel
theorem dX11_size_2 : decode cX11_size 2 = .ok (.iload_n 0, 1) := by decide +kernel
theorem dX11_size_3 : decode cX11_size 3 = .ok (.istore_n 2, 1) := by decide +kernel
theorem dX11_size_4 : decode cX11_size 4 = .ok (.iload_n 2, 1) := by decide +kernel
theorem dX11_size_5 : decode cX11_size 5 = .ok (.ifCond .eq 15, 3) := by decide +kernel
theorem dX11_size_20 : decode cX11_size 20 = .ok (.iload_n 1, 1) := by decide +kernel
theorem dX11_size_21 : decode cX11_size 21 = .ok (.ireturn, 1) := by decide +kernel
theorem dX11_feed_0 : decode cX11_feed 0 = .ok (.aload_n 0, 1) := by decide +kernel
theorem dX11_feed_1 : decode cX11_feed 1 = .ok (.iconst 0, 1) := by decide +kernel
theorem dX11_feed_2 : decode cX11_feed 2 = .ok (.putfield 70, 3) := by decide +kernel
theorem dX11_feed_5 : decode cX11_feed 5 = .ok (.aload_n 0, 1) := by decide +kernel
theorem dX11_feed_6 : decode cX11_feed 6 = .ok (.getfield 73, 3) := by decide +kernel
theorem dX11_feed_9 : decode cX11_feed 9 = .ok (.bipush 20, 2) := by decide +kernel
theorem dX11_feed_11 : decode cX11_feed 11 = .ok (.iadd, 1) := by decide +kernel
theorem dX11_feed_12 : decode cX11_feed 12 = .ok (.sipush 900, 3) := by decide +kernel
theorem dX11_feed_15 : decode cX11_feed 15 = .ok (.if_icmp .le 5, 3) := by decide +kernel
theorem dX11_feed_20 : decode cX11_feed 20 = .ok (.iconst 0, 1) := by decide +kernel
theorem dX11_feed_21 : decode cX11_feed 21 = .ok (.istore 6, 2) := by decide +kernel
theorem dX11_feed_23 : decode cX11_feed 23 = .ok (.iload 6, 2) := by decide +kernel
theorem dX11_feed_25 : decode cX11_feed 25 = .ok (.bipush 20, 2) := by decide +kernel
theorem dX11_feed_27 : decode cX11_feed 27 = .ok (.if_icmp .ge 93, 3) := by decide +kernel
theorem dX11_feed_30 : decode cX11_feed 30 = .ok (.iload 6, 2) := by decide +kernel
theorem dX11_feed_32 : decode cX11_feed 32 = .ok (.iconst 4, 1) := by decide +kernel
theorem dX11_feed_33 : decode cX11_feed 33 = .ok (.if_icmp .ge 7, 3) := by decide +kernel
theorem dX11_feed_36 : decode cX11_feed 36 = .ok (.iload_n 1, 1) := by decide +kernel
theorem dX11_feed_37 : decode cX11_feed 37 = .ok (.goto 39, 3) := by decide +kernel
theorem dX11_feed_40 : decode cX11_feed 40 = .ok (.iload 6, 2) := by decide +kernel
theorem dX11_feed_42 : decode cX11_feed 42 = .ok (.bipush 8, 2) := by decide +kernel
theorem dX11_feed_44 : decode cX11_feed 44 = .ok (.if_icmp .ge 7, 3) := by decide +kernel
theorem dX11_feed_47 : decode cX11_feed 47 = .ok (.iload_n 2, 1) := by decide +kernel
theorem dX11_feed_48 : decode cX11_feed 48 = .ok (.goto 28, 3) := by decide +kernel
theorem dX11_feed_51 : decode cX11_feed 51 = .ok (.iload 6, 2) := by decide +kernel
theorem dX11_feed_53 : decode cX11_feed 53 = .ok (.bipush 12, 2) := by decide +kernel
theorem dX11_feed_55 : decode cX11_feed 55 = .ok (.if_icmp .ge 7, 3) := by decide +kernel
theorem dX11_feed_58 : decode cX11_feed 58 = .ok (.iload_n 3, 1) := by decide +kernel
theorem dX11_feed_59 : decode cX11_feed 59 = .ok (.goto 17, 3) := by decide +kernel
theorem dX11_feed_62 : decode cX11_feed 62 = .ok (.iload 6, 2) := by decide +kernel
theorem dX11_feed_64 : decode cX11_feed 64 = .ok (.bipush 16, 2) := by decide +kernel
theorem dX11_feed_66 : decode cX11_feed 66 = .ok (.if_icmp .ge 8, 3) := by decide +kernel
theorem dX11_feed_69 : decode cX11_feed 69 = .ok (.iload 4, 2) := by decide +kernel
theorem dX11_feed_71 : decode cX11_feed 71 = .ok (.goto 5, 3) := by decide +kernel
theorem dX11_feed_74 : decode cX11_feed 74 = .ok (.iload 5, 2) := by decide +kernel
theorem dX11_feed_76 : decode cX11_feed 76 = .ok (.istore 7, 2) := by decide +kernel
theorem dX11_feed_78 : decode cX11_feed 78 = .ok (.aload_n 0, 1) := by decide +kernel
theorem dX11_feed_79 : decode cX11_feed 79 = .ok (.getfield 23, 3) := by decide +kernel
theorem dX11_feed_82 : decode cX11_feed 82 = .ok (.aload_n 0, 1) := by decide +kernel
theorem dX11_feed_83 : decode cX11_feed 83 = .ok (.getfield 73, 3) := by decide +kernel
theorem dX11_feed_86 : decode cX11_feed 86 = .ok (.iload 7, 2) := by decide +kernel
theorem dX11_feed_88 : decode cX11_feed 88 = .ok (.bipush 24, 2) := by decide +kernel
theorem dX11_feed_90 : decode cX11_feed 90 = .ok (.bipush 8, 2) := by decide +kernel
theorem dX11_feed_92 : decode cX11_feed 92 = .ok (.iload 6, 2) := by decide +kernel
theorem dX11_feed_94 : decode cX11_feed 94 = .ok (.iconst 3, 1) := by decide +kernel
theorem dX11_feed_95 : decode cX11_feed 95 = .ok (.iand, 1) := by decide +kernel
theorem dX11_feed_96 : decode cX11_feed 96 = .ok (.imul, 1) := by decide +kernel
theorem dX11_feed_97 : decode cX11_feed 97 = .ok (.isub, 1) := by decide +kernel
theorem dX11_feed_98 : decode cX11_feed 98 = .ok (.iushr, 1) := by decide +kernel
theorem dX11_feed_99 : decode cX11_feed 99 = .ok (.sipush 255, 3) := by decide +kernel
theorem dX11_feed_102 : decode cX11_feed 102 = .ok (.iand, 1) := by decide +kernel
theorem dX11_feed_103 : decode cX11_feed 103 = .ok (.iastore, 1) := by decide +kernel
theorem dX11_feed_104 : decode cX11_feed 104 = .ok (.aload_n 0, 1) := by decide +kernel
theorem dX11_feed_105 : decode cX11_feed 105 = .ok (.dup, 1) := by decide +kernel
theorem dX11_feed_106 : decode cX11_feed 106 = .ok (.getfield 73, 3) := by decide +kernel
theorem dX11_feed_109 : decode cX11_feed 109 = .ok (.iconst 1, 1) := by decide +kernel
theorem dX11_feed_110 : decode cX11_feed 110 = .ok (.iadd, 1) := by decide +kernel
theorem dX11_feed_111 : decode cX11_feed 111 = .ok (.putfield 73, 3) := by decide +kernel
theorem dX11_feed_114 : decode cX11_feed 114 = .ok (.iinc 6 1, 3) := by decide +kernel
theorem dX11_feed_117 : decode cX11_feed 117 = .ok (.goto (-94), 3) := by decide +kernel
theorem dX11_feed_120 : decode cX11_feed 120 = .ok (.aload_n 0, 1) := by decide +kernel
theorem dX11_feed_121 : decode cX11_feed 121 = .ok (.getfield 73, 3) := by decide +kernel
theorem dX11_feed_124 : decode cX11_feed 124 = .ok (.ireturn, 1) := by decide +kernel
theorem dX11_readsOn_0 : decode cX11_readsOn 0 = .ok (.aload_n 0, 1) := by decide +kernel
theorem dX11_readsOn_1 : decode cX11_readsOn 1 = .ok (.getfield 79, 3) := by decide +kernel
theorem dX11_readsOn_4 : decode cX11_readsOn 4 = .ok (.aload_n 0, 1) := by decide +kernel
theorem dX11_readsOn_5 : decode cX11_readsOn 5 = .ok (.getfield 76, 3) := by decide +kernel
theorem dX11_readsOn_8 : decode cX11_readsOn 8 = .ok (.if_icmp .ge 44, 3) := by decide +kernel
theorem dX11_readsOn_52 : decode cX11_readsOn 52 = .ok (.aload_n 0, 1) := by decide +kernel
theorem dX11_readsOn_53 : decode cX11_readsOn 53 = .ok (.aload_n 0, 1) := by decide +kernel
theorem dX11_readsOn_54 : decode cX11_readsOn 54 = .ok (.getfield 79, 3) := by decide +kernel
theorem dX11_readsOn_57 : decode cX11_readsOn 57 = .ok (.putfield 82, 3) := by decide +kernel
theorem dX11_readsOn_60 : decode cX11_readsOn 60 = .ok (.aload_n 0, 1) := by decide +kernel
theorem dX11_readsOn_61 : decode cX11_readsOn 61 = .ok (.getfield 79, 3) := by decide +kernel
theorem dX11_readsOn_64 : decode cX11_readsOn 64 = .ok (.aload_n 0, 1) := by decide +kernel
theorem dX11_readsOn_65 : decode cX11_readsOn 65 = .ok (.getfield 76, 3) := by decide +kernel
theorem dX11_readsOn_68 : decode cX11_readsOn 68 = .ok (.if_icmp .lt 9, 3) := by decide +kernel
theorem dX11_readsOn_71 : decode cX11_readsOn 71 = .ok (.aload_n 0, 1) := by decide +kernel
theorem dX11_readsOn_72 : decode cX11_readsOn 72 = .ok (.iconst 0, 1) := by decide +kernel
theorem dX11_readsOn_73 : decode cX11_readsOn 73 = .ok (.putfield 85, 3) := by decide +kernel
theorem dX11_readsOn_76 : decode cX11_readsOn 76 = .ok (.return_, 1) := by decide +kernel
theorem dX11_blames_0 : decode cX11_blames 0 = .ok (.aload_n 0, 1) := by decide +kernel
theorem dX11_blames_1 : decode cX11_blames 1 = .ok (.getfield 105, 3) := by decide +kernel
theorem dX11_blames_4 : decode cX11_blames 4 = .ok (.ifCond .eq 4, 3) := by decide +kernel
theorem dX11_blames_7 : decode cX11_blames 7 = .ok (.return_, 1) := by decide +kernel
theorem dX11_blames_8 : decode cX11_blames 8 = .ok (.aload_n 0, 1) := by decide +kernel
theorem dX11_blames_9 : decode cX11_blames 9 = .ok (.aload_n 0, 1) := by decide +kernel
theorem dX11_blames_10 : decode cX11_blames 10 = .ok (.getfield 85, 3) := by decide +kernel
theorem dX11_blames_13 : decode cX11_blames 13 = .ok (.iconst 3, 1) := by decide +kernel
theorem dX11_blames_14 : decode cX11_blames 14 = .ok (.if_icmp .ne 7, 3) := by decide +kernel
theorem dX11_blames_21 : decode cX11_blames 21 = .ok (.iload_n 1, 1) := by decide +kernel
theorem dX11_blames_22 : decode cX11_blames 22 = .ok (.putfield 105, 3) := by decide +kernel
theorem dX11_blames_25 : decode cX11_blames 25 = .ok (.aload_n 0, 1) := by decide +kernel
theorem dX11_blames_26 : decode cX11_blames 26 = .ok (.aload_n 0, 1) := by decide +kernel
theorem dX11_blames_27 : decode cX11_blames 27 = .ok (.getfield 82, 3) := by decide +kernel
theorem dX11_blames_30 : decode cX11_blames 30 = .ok (.putfield 108, 3) := by decide +kernel
theorem dX11_blames_33 : decode cX11_blames 33 = .ok (.return_, 1) := by decide +kernel
theorem dX11_isWord_0 : decode cX11_isWord 0 = .ok (.aload_n 0, 1) := by decide +kernel
theorem dX11_isWord_1 : decode cX11_isWord 1 = .ok (.getfield 105, 3) := by decide +kernel
theorem dX11_isWord_4 : decode cX11_isWord 4 = .ok (.ifCond .ne 31, 3) := by decide +kernel
theorem dX11_isWord_7 : decode cX11_isWord 7 = .ok (.aload_n 0, 1) := by decide +kernel
theorem dX11_isWord_8 : decode cX11_isWord 8 = .ok (.getfield 85, 3) := by decide +kernel
theorem dX11_isWord_11 : decode cX11_isWord 11 = .ok (.iconst 1, 1) := by decide +kernel
theorem dX11_isWord_12 : decode cX11_isWord 12 = .ok (.if_icmp .ne 23, 3) := by decide +kernel
theorem dX11_isWord_35 : decode cX11_isWord 35 = .ok (.iconst 0, 1) := by decide +kernel
theorem dX11_isWord_36 : decode cX11_isWord 36 = .ok (.istore_n 2, 1) := by decide +kernel
theorem dX11_isWord_37 : decode cX11_isWord 37 = .ok (.iconst 0, 1) := by decide +kernel
theorem dX11_isWord_38 : decode cX11_isWord 38 = .ok (.istore_n 3, 1) := by decide +kernel
theorem dX11_isWord_39 : decode cX11_isWord 39 = .ok (.iload_n 2, 1) := by decide +kernel
theorem dX11_isWord_40 : decode cX11_isWord 40 = .ok (.ifCond .eq 42, 3) := by decide +kernel
theorem dX11_isWord_82 : decode cX11_isWord 82 = .ok (.iload_n 2, 1) := by decide +kernel
theorem dX11_isWord_83 : decode cX11_isWord 83 = .ok (.ireturn, 1) := by decide +kernel
theorem dX11_took_0 : decode cX11_took 0 = .ok (.aload_n 0, 1) := by decide +kernel
theorem dX11_took_1 : decode cX11_took 1 = .ok (.aload_n 1, 1) := by decide +kernel
theorem dX11_took_2 : decode cX11_took 2 = .ok (.invokevirtual 120, 3) := by decide +kernel
theorem dX11_took_5 : decode cX11_took 5 = .ok (.istore_n 2, 1) := by decide +kernel
theorem dX11_took_6 : decode cX11_took 6 = .ok (.iload_n 2, 1) := by decide +kernel
theorem dX11_took_7 : decode cX11_took 7 = .ok (.ifCond .eq 7, 3) := by decide +kernel
theorem dX11_took_14 : decode cX11_took 14 = .ok (.iload_n 2, 1) := by decide +kernel
theorem dX11_took_15 : decode cX11_took 15 = .ok (.ireturn, 1) := by decide +kernel
theorem dX11_mustSign_0 : decode cX11_mustSign 0 = .ok (.aload_n 0, 1) := by decide +kernel
theorem dX11_mustSign_1 : decode cX11_mustSign 1 = .ok (.getfield 85, 3) := by decide +kernel
theorem dX11_mustSign_4 : decode cX11_mustSign 4 = .ok (.iload_n 1, 1) := by decide +kernel
theorem dX11_mustSign_5 : decode cX11_mustSign 5 = .ok (.if_icmp .eq 8, 3) := by decide +kernel
theorem dX11_mustSign_8 : decode cX11_mustSign 8 = .ok (.aload_n 0, 1) := by decide +kernel
theorem dX11_mustSign_9 : decode cX11_mustSign 9 = .ok (.iconst 2, 1) := by decide +kernel
theorem dX11_mustSign_10 : decode cX11_mustSign 10 = .ok (.invokevirtual 127, 3) := by decide +kernel
theorem dX11_mustSign_13 : decode cX11_mustSign 13 = .ok (.aload_n 0, 1) := by decide +kernel
theorem dX11_mustSign_14 : decode cX11_mustSign 14 = .ok (.getfield 105, 3) := by decide +kernel
theorem dX11_mustSign_17 : decode cX11_mustSign 17 = .ok (.ifCond .ne 7, 3) := by decide +kernel
theorem dX11_mustSign_24 : decode cX11_mustSign 24 = .ok (.return_, 1) := by decide +kernel
theorem dX11_number_0 : decode cX11_number 0 = .ok (.aload_n 0, 1) := by decide +kernel
theorem dX11_number_1 : decode cX11_number 1 = .ok (.getfield 85, 3) := by decide +kernel
theorem dX11_number_4 : decode cX11_number 4 = .ok (.iconst 2, 1) := by decide +kernel
theorem dX11_number_5 : decode cX11_number 5 = .ok (.if_icmp .eq 11, 3) := by decide +kernel
theorem dX11_number_8 : decode cX11_number 8 = .ok (.aload_n 0, 1) := by decide +kernel
theorem dX11_number_9 : decode cX11_number 9 = .ok (.iconst 2, 1) := by decide +kernel
theorem dX11_number_10 : decode cX11_number 10 = .ok (.invokevirtual 127, 3) := by decide +kernel
theorem dX11_number_13 : decode cX11_number 13 = .ok (.goto 23, 3) := by decide +kernel
theorem dX11_number_36 : decode cX11_number 36 = .ok (.aload_n 0, 1) := by decide +kernel
theorem dX11_number_37 : decode cX11_number 37 = .ok (.getfield 99, 3) := by decide +kernel
theorem dX11_number_40 : decode cX11_number 40 = .ok (.istore_n 3, 1) := by decide +kernel
theorem dX11_number_41 : decode cX11_number 41 = .ok (.aload_n 0, 1) := by decide +kernel
theorem dX11_number_42 : decode cX11_number 42 = .ok (.getfield 105, 3) := by decide +kernel
theorem dX11_number_45 : decode cX11_number 45 = .ok (.ifCond .ne 7, 3) := by decide +kernel
theorem dX11_number_52 : decode cX11_number 52 = .ok (.aload_n 0, 1) := by decide +kernel
theorem dX11_number_53 : decode cX11_number 53 = .ok (.getfield 105, 3) := by decide +kernel
theorem dX11_number_56 : decode cX11_number 56 = .ok (.ifCond .ne 7, 3) := by decide +kernel
theorem dX11_number_63 : decode cX11_number 63 = .ok (.iload_n 1, 1) := by decide +kernel
theorem dX11_number_64 : decode cX11_number 64 = .ok (.ireturn, 1) := by decide +kernel
theorem dX11_mustWord_0 : decode cX11_mustWord 0 = .ok (.aload_n 0, 1) := by decide +kernel
theorem dX11_mustWord_1 : decode cX11_mustWord 1 = .ok (.aload_n 1, 1) := by decide +kernel
theorem dX11_mustWord_2 : decode cX11_mustWord 2 = .ok (.invokevirtual 135, 3) := by decide +kernel
theorem dX11_mustWord_5 : decode cX11_mustWord 5 = .ok (.ifCond .ne 8, 3) := by decide +kernel
theorem dX11_mustWord_8 : decode cX11_mustWord 8 = .ok (.aload_n 0, 1) := by decide +kernel
theorem dX11_mustWord_9 : decode cX11_mustWord 9 = .ok (.iconst 2, 1) := by decide +kernel
theorem dX11_mustWord_10 : decode cX11_mustWord 10 = .ok (.invokevirtual 127, 3) := by decide +kernel
theorem dX11_mustWord_13 : decode cX11_mustWord 13 = .ok (.return_, 1) := by decide +kernel
theorem dX11_readStop_0 : decode cX11_readStop 0 = .ok (.aload_n 0, 1) := by decide +kernel
theorem dX11_readStop_1 : decode cX11_readStop 1 = .ok (.bipush 59, 2) := by decide +kernel
theorem dX11_readStop_3 : decode cX11_readStop 3 = .ok (.invokevirtual 171, 3) := by decide +kernel
theorem dX11_readStop_6 : decode cX11_readStop 6 = .ok (.aload_n 0, 1) := by decide +kernel
theorem dX11_readStop_7 : decode cX11_readStop 7 = .ok (.getfield 105, 3) := by decide +kernel
theorem dX11_readStop_10 : decode cX11_readStop 10 = .ok (.ifCond .ne 13, 3) := by decide +kernel
theorem dX11_readStop_23 : decode cX11_readStop 23 = .ok (.return_, 1) := by decide +kernel
theorem dX11_district_0 : decode cX11_district 0 = .ok (.aload_n 0, 1) := by decide +kernel
theorem dX11_district_1 : decode cX11_district 1 = .ok (.iconst 0, 1) := by decide +kernel
theorem dX11_district_2 : decode cX11_district 2 = .ok (.putfield 70, 3) := by decide +kernel
theorem dX11_district_5 : decode cX11_district 5 = .ok (.iload_n 1, 1) := by decide +kernel
theorem dX11_district_6 : decode cX11_district 6 = .ok (.i2l, 1) := by decide +kernel
theorem dX11_district_7 : decode cX11_district 7 = .ok (.lconst 0, 1) := by decide +kernel
theorem dX11_district_8 : decode cX11_district 8 = .ok (.aload_n 0, 1) := by decide +kernel
theorem dX11_district_9 : decode cX11_district 9 = .ok (.getfield 73, 3) := by decide +kernel
theorem dX11_district_12 : decode cX11_district 12 = .ok (.i2l, 1) := by decide +kernel
theorem dX11_district_13 : decode cX11_district 13 = .ok (.invokestatic 131, 3) := by decide +kernel
theorem dX11_district_16 : decode cX11_district 16 = .ok (.ifCond .ne 9, 3) := by decide +kernel
theorem dX11_district_19 : decode cX11_district 19 = .ok (.aload_n 0, 1) := by decide +kernel
theorem dX11_district_20 : decode cX11_district 20 = .ok (.iconst 1, 1) := by decide +kernel
theorem dX11_district_21 : decode cX11_district 21 = .ok (.invokevirtual 269, 3) := by decide +kernel
theorem dX11_district_24 : decode cX11_district 24 = .ok (.ireturn, 1) := by decide +kernel
theorem dX11_district_25 : decode cX11_district 25 = .ok (.aload_n 0, 1) := by decide +kernel
theorem dX11_district_26 : decode cX11_district 26 = .ok (.iload_n 1, 1) := by decide +kernel
theorem dX11_district_27 : decode cX11_district 27 = .ok (.putfield 76, 3) := by decide +kernel
theorem dX11_district_30 : decode cX11_district 30 = .ok (.aload_n 0, 1) := by decide +kernel
theorem dX11_district_31 : decode cX11_district 31 = .ok (.iconst 0, 1) := by decide +kernel
theorem dX11_district_32 : decode cX11_district 32 = .ok (.putfield 73, 3) := by decide +kernel
theorem dX11_district_35 : decode cX11_district 35 = .ok (.aload_n 0, 1) := by decide +kernel
theorem dX11_district_36 : decode cX11_district 36 = .ok (.iconst 0, 1) := by decide +kernel
theorem dX11_district_37 : decode cX11_district 37 = .ok (.putfield 79, 3) := by decide +kernel
theorem dX11_district_40 : decode cX11_district 40 = .ok (.aload_n 0, 1) := by decide +kernel
theorem dX11_district_41 : decode cX11_district 41 = .ok (.iconst 0, 1) := by decide +kernel
theorem dX11_district_42 : decode cX11_district 42 = .ok (.putfield 105, 3) := by decide +kernel
theorem dX11_district_45 : decode cX11_district 45 = .ok (.aload_n 0, 1) := by decide +kernel
theorem dX11_district_46 : decode cX11_district 46 = .ok (.iconst 0, 1) := by decide +kernel
theorem dX11_district_47 : decode cX11_district 47 = .ok (.putfield 144, 3) := by decide +kernel
theorem dX11_district_50 : decode cX11_district 50 = .ok (.iconst 0, 1) := by decide +kernel
theorem dX11_district_51 : decode cX11_district 51 = .ok (.istore_n 2, 1) := by decide +kernel
theorem dX11_district_52 : decode cX11_district 52 = .ok (.iload_n 2, 1) := by decide +kernel
theorem dX11_district_53 : decode cX11_district 53 = .ok (.sipush 2260, 3) := by decide +kernel
theorem dX11_district_56 : decode cX11_district 56 = .ok (.if_icmp .ge 16, 3) := by decide +kernel
theorem dX11_district_59 : decode cX11_district 59 = .ok (.aload_n 0, 1) := by decide +kernel
theorem dX11_district_60 : decode cX11_district 60 = .ok (.getfield 13, 3) := by decide +kernel
theorem dX11_district_63 : decode cX11_district 63 = .ok (.iload_n 2, 1) := by decide +kernel
theorem dX11_district_64 : decode cX11_district 64 = .ok (.iconst 0, 1) := by decide +kernel
theorem dX11_district_65 : decode cX11_district 65 = .ok (.iastore, 1) := by decide +kernel
theorem dX11_district_66 : decode cX11_district 66 = .ok (.iinc 2 1, 3) := by decide +kernel
theorem dX11_district_69 : decode cX11_district 69 = .ok (.goto (-17), 3) := by decide +kernel
theorem dX11_district_72 : decode cX11_district 72 = .ok (.aload_n 0, 1) := by decide +kernel
theorem dX11_district_73 : decode cX11_district 73 = .ok (.invokevirtual 124, 3) := by decide +kernel
theorem dX11_district_76 : decode cX11_district 76 = .ok (.aload_n 0, 1) := by decide +kernel
theorem dX11_district_77 : decode cX11_district 77 = .ok (.ldc_w 272, 3) := by decide +kernel
theorem dX11_district_80 : decode cX11_district 80 = .ok (.invokevirtual 222, 3) := by decide +kernel
theorem dX11_district_83 : decode cX11_district 83 = .ok (.aload_n 0, 1) := by decide +kernel
theorem dX11_district_84 : decode cX11_district 84 = .ok (.getfield 13, 3) := by decide +kernel
theorem dX11_district_87 : decode cX11_district 87 = .ok (.iconst 1, 1) := by decide +kernel
theorem dX11_district_88 : decode cX11_district 88 = .ok (.aload_n 0, 1) := by decide +kernel
theorem dX11_district_89 : decode cX11_district 89 = .ok (.iconst 1, 1) := by decide +kernel
theorem dX11_district_90 : decode cX11_district 90 = .ok (.bipush 6, 2) := by decide +kernel
theorem dX11_district_92 : decode cX11_district 92 = .ok (.invokevirtual 212, 3) := by decide +kernel
theorem dX11_district_95 : decode cX11_district 95 = .ok (.iastore, 1) := by decide +kernel
theorem dX11_district_96 : decode cX11_district 96 = .ok (.aload_n 0, 1) := by decide +kernel
theorem dX11_district_97 : decode cX11_district 97 = .ok (.getfield 13, 3) := by decide +kernel
theorem dX11_district_100 : decode cX11_district 100 = .ok (.iconst 2, 1) := by decide +kernel
theorem dX11_district_101 : decode cX11_district 101 = .ok (.aload_n 0, 1) := by decide +kernel
theorem dX11_district_102 : decode cX11_district 102 = .ok (.iconst 1, 1) := by decide +kernel
theorem dX11_district_103 : decode cX11_district 103 = .ok (.bipush 9, 2) := by decide +kernel
theorem dX11_district_105 : decode cX11_district 105 = .ok (.invokevirtual 212, 3) := by decide +kernel
theorem dX11_district_108 : decode cX11_district 108 = .ok (.iastore, 1) := by decide +kernel
theorem dX11_district_109 : decode cX11_district 109 = .ok (.aload_n 0, 1) := by decide +kernel
theorem dX11_district_110 : decode cX11_district 110 = .ok (.invokevirtual 266, 3) := by decide +kernel
theorem dX11_district_113 : decode cX11_district 113 = .ok (.aload_n 0, 1) := by decide +kernel
theorem dX11_district_114 : decode cX11_district 114 = .ok (.getfield 105, 3) := by decide +kernel
theorem dX11_district_117 : decode cX11_district 117 = .ok (.ifCond .ne 17, 3) := by decide +kernel
theorem dX11_district_134 : decode cX11_district 134 = .ok (.aload_n 0, 1) := by decide +kernel
theorem dX11_district_135 : decode cX11_district 135 = .ok (.aload_n 0, 1) := by decide +kernel
theorem dX11_district_136 : decode cX11_district 136 = .ok (.getfield 105, 3) := by decide +kernel
theorem dX11_district_139 : decode cX11_district 139 = .ok (.putfield 277, 3) := by decide +kernel
theorem dX11_district_142 : decode cX11_district 142 = .ok (.aload_n 0, 1) := by decide +kernel
theorem dX11_district_143 : decode cX11_district 143 = .ok (.aload_n 0, 1) := by decide +kernel
theorem dX11_district_144 : decode cX11_district 144 = .ok (.getfield 105, 3) := by decide +kernel
theorem dX11_district_147 : decode cX11_district 147 = .ok (.ifCond .ne 7, 3) := by decide +kernel
theorem dX11_district_154 : decode cX11_district 154 = .ok (.aload_n 0, 1) := by decide +kernel
theorem dX11_district_155 : decode cX11_district 155 = .ok (.getfield 108, 3) := by decide +kernel
theorem dX11_district_158 : decode cX11_district 158 = .ok (.putfield 26, 3) := by decide +kernel
theorem dX11_district_161 : decode cX11_district 161 = .ok (.aload_n 0, 1) := by decide +kernel
theorem dX11_district_162 : decode cX11_district 162 = .ok (.getfield 105, 3) := by decide +kernel
theorem dX11_district_165 : decode cX11_district 165 = .ok (.ifCond .eq 11, 3) := by decide +kernel
theorem dX11_district_168 : decode cX11_district 168 = .ok (.bipush (-10), 2) := by decide +kernel
theorem dX11_district_170 : decode cX11_district 170 = .ok (.aload_n 0, 1) := by decide +kernel
theorem dX11_district_171 : decode cX11_district 171 = .ok (.getfield 105, 3) := by decide +kernel
theorem dX11_district_174 : decode cX11_district 174 = .ok (.isub, 1) := by decide +kernel
theorem dX11_district_175 : decode cX11_district 175 = .ok (.ireturn, 1) := by decide +kernel
theorem dX11_fault_0 : decode cX11_fault 0 = .ok (.aload_n 0, 1) := by decide +kernel
theorem dX11_fault_1 : decode cX11_fault 1 = .ok (.iconst 0, 1) := by decide +kernel
theorem dX11_fault_2 : decode cX11_fault 2 = .ok (.putfield 70, 3) := by decide +kernel
theorem dX11_fault_5 : decode cX11_fault 5 = .ok (.iload_n 1, 1) := by decide +kernel
theorem dX11_fault_6 : decode cX11_fault 6 = .ok (.ifCond .ne 10, 3) := by decide +kernel
theorem dX11_fault_9 : decode cX11_fault 9 = .ok (.aload_n 0, 1) := by decide +kernel
theorem dX11_fault_10 : decode cX11_fault 10 = .ok (.getfield 277, 3) := by decide +kernel
theorem dX11_fault_13 : decode cX11_fault 13 = .ok (.goto 16, 3) := by decide +kernel
theorem dX11_fault_16 : decode cX11_fault 16 = .ok (.iload_n 1, 1) := by decide +kernel
theorem dX11_fault_17 : decode cX11_fault 17 = .ok (.iconst 1, 1) := by decide +kernel
theorem dX11_fault_18 : decode cX11_fault 18 = .ok (.if_icmp .ne 10, 3) := by decide +kernel
theorem dX11_fault_21 : decode cX11_fault 21 = .ok (.aload_n 0, 1) := by decide +kernel
theorem dX11_fault_22 : decode cX11_fault 22 = .ok (.getfield 26, 3) := by decide +kernel
theorem dX11_fault_25 : decode cX11_fault 25 = .ok (.goto 4, 3) := by decide +kernel
theorem dX11_fault_28 : decode cX11_fault 28 = .ok (.iconst (-1), 1) := by decide +kernel
theorem dX11_fault_29 : decode cX11_fault 29 = .ok (.ireturn, 1) := by decide +kernel
theorem dX11_things_0 : decode cX11_things 0 = .ok (.aload_n 0, 1) := by decide +kernel
theorem dX11_things_1 : decode cX11_things 1 = .ok (.getfield 9, 3) := by decide +kernel
theorem dX11_things_4 : decode cX11_things 4 = .ok (.iconst 3, 1) := by decide +kernel
theorem dX11_things_5 : decode cX11_things 5 = .ok (.iaload, 1) := by decide +kernel
theorem dX11_things_6 : decode cX11_things 6 = .ok (.ireturn, 1) := by decide +kernel
theorem dX11_isThing_0 : decode cX11_isThing 0 = .ok (.lload_n 1, 1) := by decide +kernel
theorem dX11_isThing_1 : decode cX11_isThing 1 = .ok (.lconst 0, 1) := by decide +kernel
theorem dX11_isThing_2 : decode cX11_isThing 2 = .ok (.aload_n 0, 1) := by decide +kernel
theorem dX11_isThing_3 : decode cX11_isThing 3 = .ok (.invokevirtual 280, 3) := by decide +kernel
theorem dX11_isThing_6 : decode cX11_isThing 6 = .ok (.iconst 1, 1) := by decide +kernel
theorem dX11_isThing_7 : decode cX11_isThing 7 = .ok (.isub, 1) := by decide +kernel
theorem dX11_isThing_8 : decode cX11_isThing 8 = .ok (.i2l, 1) := by decide +kernel
theorem dX11_isThing_9 : decode cX11_isThing 9 = .ok (.invokestatic 131, 3) := by decide +kernel
theorem dX11_isThing_12 : decode cX11_isThing 12 = .ok (.ireturn, 1) := by decide +kernel
theorem dX11_isColumn_0 : decode cX11_isColumn 0 = .ok (.lload_n 1, 1) := by decide +kernel
theorem dX11_isColumn_1 : decode cX11_isColumn 1 = .ok (.lconst 0, 1) := by decide +kernel
theorem dX11_isColumn_2 : decode cX11_isColumn 2 = .ok (.aload_n 0, 1) := by decide +kernel
theorem dX11_isColumn_3 : decode cX11_isColumn 3 = .ok (.getfield 9, 3) := by decide +kernel
theorem dX11_isColumn_6 : decode cX11_isColumn 6 = .ok (.iconst 1, 1) := by decide +kernel
theorem dX11_isColumn_7 : decode cX11_isColumn 7 = .ok (.iaload, 1) := by decide +kernel
theorem dX11_isColumn_8 : decode cX11_isColumn 8 = .ok (.iconst 1, 1) := by decide +kernel
theorem dX11_isColumn_9 : decode cX11_isColumn 9 = .ok (.isub, 1) := by decide +kernel
theorem dX11_isColumn_10 : decode cX11_isColumn 10 = .ok (.i2l, 1) := by decide +kernel
theorem dX11_isColumn_11 : decode cX11_isColumn 11 = .ok (.invokestatic 131, 3) := by decide +kernel
theorem dX11_isColumn_14 : decode cX11_isColumn 14 = .ok (.ireturn, 1) := by decide +kernel
theorem dX11_isPlace_0 : decode cX11_isPlace 0 = .ok (.aload_n 0, 1) := by decide +kernel
theorem dX11_isPlace_1 : decode cX11_isPlace 1 = .ok (.lload_n 1, 1) := by decide +kernel
theorem dX11_isPlace_2 : decode cX11_isPlace 2 = .ok (.invokevirtual 286, 3) := by decide +kernel
theorem dX11_isPlace_5 : decode cX11_isPlace 5 = .ok (.ifCond .eq 24, 3) := by decide +kernel
theorem dX11_isPlace_8 : decode cX11_isPlace 8 = .ok (.lload_n 3, 1) := by decide +kernel
theorem dX11_isPlace_9 : decode cX11_isPlace 9 = .ok (.lconst 0, 1) := by decide +kernel
theorem dX11_isPlace_10 : decode cX11_isPlace 10 = .ok (.aload_n 0, 1) := by decide +kernel
theorem dX11_isPlace_11 : decode cX11_isPlace 11 = .ok (.getfield 9, 3) := by decide +kernel
theorem dX11_isPlace_14 : decode cX11_isPlace 14 = .ok (.iconst 2, 1) := by decide +kernel
theorem dX11_isPlace_15 : decode cX11_isPlace 15 = .ok (.iaload, 1) := by decide +kernel
theorem dX11_isPlace_16 : decode cX11_isPlace 16 = .ok (.iconst 1, 1) := by decide +kernel
theorem dX11_isPlace_17 : decode cX11_isPlace 17 = .ok (.isub, 1) := by decide +kernel
theorem dX11_isPlace_18 : decode cX11_isPlace 18 = .ok (.i2l, 1) := by decide +kernel
theorem dX11_isPlace_19 : decode cX11_isPlace 19 = .ok (.invokestatic 131, 3) := by decide +kernel
theorem dX11_isPlace_22 : decode cX11_isPlace 22 = .ok (.ifCond .eq 7, 3) := by decide +kernel
theorem dX11_isPlace_25 : decode cX11_isPlace 25 = .ok (.iconst 1, 1) := by decide +kernel
theorem dX11_isPlace_26 : decode cX11_isPlace 26 = .ok (.goto 4, 3) := by decide +kernel
theorem dX11_isPlace_29 : decode cX11_isPlace 29 = .ok (.iconst 0, 1) := by decide +kernel
theorem dX11_isPlace_30 : decode cX11_isPlace 30 = .ok (.ireturn, 1) := by decide +kernel
theorem dX11_isWalker_0 : decode cX11_isWalker 0 = .ok (.iload_n 1, 1) := by decide +kernel
theorem dX11_isWalker_1 : decode cX11_isWalker 1 = .ok (.i2l, 1) := by decide +kernel
theorem dX11_isWalker_2 : decode cX11_isWalker 2 = .ok (.lconst 0, 1) := by decide +kernel
theorem dX11_isWalker_3 : decode cX11_isWalker 3 = .ok (.aload_n 0, 1) := by decide +kernel
theorem dX11_isWalker_4 : decode cX11_isWalker 4 = .ok (.getfield 9, 3) := by decide +kernel
theorem dX11_isWalker_7 : decode cX11_isWalker 7 = .ok (.iconst 4, 1) := by decide +kernel
theorem dX11_isWalker_8 : decode cX11_isWalker 8 = .ok (.iaload, 1) := by decide +kernel
theorem dX11_isWalker_9 : decode cX11_isWalker 9 = .ok (.iconst 1, 1) := by decide +kernel
theorem dX11_isWalker_10 : decode cX11_isWalker 10 = .ok (.isub, 1) := by decide +kernel
theorem dX11_isWalker_11 : decode cX11_isWalker 11 = .ok (.i2l, 1) := by decide +kernel
theorem dX11_isWalker_12 : decode cX11_isWalker 12 = .ok (.invokestatic 131, 3) := by decide +kernel
theorem dX11_isWalker_15 : decode cX11_isWalker 15 = .ok (.ireturn, 1) := by decide +kernel
theorem dX11_lyingIn_0 : decode cX11_lyingIn 0 = .ok (.iconst 0, 1) := by decide +kernel
theorem dX11_lyingIn_1 : decode cX11_lyingIn 1 = .ok (.istore_n 2, 1) := by decide +kernel
theorem dX11_lyingIn_2 : decode cX11_lyingIn 2 = .ok (.iconst 0, 1) := by decide +kernel
theorem dX11_lyingIn_3 : decode cX11_lyingIn 3 = .ok (.istore_n 3, 1) := by decide +kernel
theorem dX11_lyingIn_4 : decode cX11_lyingIn 4 = .ok (.iload_n 3, 1) := by decide +kernel
theorem dX11_lyingIn_5 : decode cX11_lyingIn 5 = .ok (.aload_n 0, 1) := by decide +kernel
theorem dX11_lyingIn_6 : decode cX11_lyingIn 6 = .ok (.iconst 3, 1) := by decide +kernel
theorem dX11_lyingIn_7 : decode cX11_lyingIn 7 = .ok (.iaload, 1) := by decide +kernel
theorem dX11_lyingIn_8 : decode cX11_lyingIn 8 = .ok (.if_icmp .ge 37, 3) := by decide +kernel
theorem dX11_lyingIn_45 : decode cX11_lyingIn 45 = .ok (.iload_n 2, 1) := by decide +kernel
theorem dX11_lyingIn_46 : decode cX11_lyingIn 46 = .ok (.ireturn, 1) := by decide +kernel
theorem dX11_lying_0 : decode cX11_lying 0 = .ok (.aload_n 0, 1) := by decide +kernel
theorem dX11_lying_1 : decode cX11_lying 1 = .ok (.getfield 9, 3) := by decide +kernel
theorem dX11_lying_4 : decode cX11_lying 4 = .ok (.iload_n 1, 1) := by decide +kernel
theorem dX11_lying_5 : decode cX11_lying 5 = .ok (.invokestatic 230, 3) := by decide +kernel
theorem dX11_lying_8 : decode cX11_lying 8 = .ok (.ireturn, 1) := by decide +kernel
theorem dX11_hangsFor_0 : decode cX11_hangsFor 0 = .ok (.aload_n 0, 1) := by decide +kernel
theorem dX11_hangsFor_1 : decode cX11_hangsFor 1 = .ok (.getfield 9, 3) := by decide +kernel
theorem dX11_hangsFor_4 : decode cX11_hangsFor 4 = .ok (.iconst 5, 1) := by decide +kernel
theorem dX11_hangsFor_5 : decode cX11_hangsFor 5 = .ok (.iaload, 1) := by decide +kernel
theorem dX11_hangsFor_6 : decode cX11_hangsFor 6 = .ok (.ifCond .ne 5, 3) := by decide +kernel
theorem dX11_hangsFor_9 : decode cX11_hangsFor 9 = .ok (.iload_n 1, 1) := by decide +kernel
theorem dX11_hangsFor_10 : decode cX11_hangsFor 10 = .ok (.ireturn, 1) := by decide +kernel
theorem dX11_drops_0 : decode cX11_drops 0 = .ok (.iload_n 2, 1) := by decide +kernel
theorem dX11_drops_1 : decode cX11_drops 1 = .ok (.ifCond .ne 4, 3) := by decide +kernel
theorem dX11_drops_4 : decode cX11_drops 4 = .ok (.return_, 1) := by decide +kernel
theorem dX11_fallAll_0 : decode cX11_fallAll 0 = .ok (.iconst 0, 1) := by decide +kernel
theorem dX11_fallAll_1 : decode cX11_fallAll 1 = .ok (.istore_n 2, 1) := by decide +kernel
theorem dX11_fallAll_2 : decode cX11_fallAll 2 = .ok (.iload_n 2, 1) := by decide +kernel
theorem dX11_fallAll_3 : decode cX11_fallAll 3 = .ok (.aload_n 0, 1) := by decide +kernel
theorem dX11_fallAll_4 : decode cX11_fallAll 4 = .ok (.getfield 9, 3) := by decide +kernel
theorem dX11_fallAll_7 : decode cX11_fallAll 7 = .ok (.iconst 1, 1) := by decide +kernel
theorem dX11_fallAll_8 : decode cX11_fallAll 8 = .ok (.iaload, 1) := by decide +kernel
theorem dX11_fallAll_9 : decode cX11_fallAll 9 = .ok (.if_icmp .ge 80, 3) := by decide +kernel
theorem dX11_fallAll_12 : decode cX11_fallAll 12 = .ok (.iconst 0, 1) := by decide +kernel
theorem dX11_fallAll_13 : decode cX11_fallAll 13 = .ok (.istore_n 3, 1) := by decide +kernel
theorem dX11_fallAll_14 : decode cX11_fallAll 14 = .ok (.iconst 0, 1) := by decide +kernel
theorem dX11_fallAll_15 : decode cX11_fallAll 15 = .ok (.istore 4, 2) := by decide +kernel
theorem dX11_fallAll_17 : decode cX11_fallAll 17 = .ok (.iload 4, 2) := by decide +kernel
theorem dX11_fallAll_19 : decode cX11_fallAll 19 = .ok (.aload_n 0, 1) := by decide +kernel
theorem dX11_fallAll_20 : decode cX11_fallAll 20 = .ok (.invokevirtual 280, 3) := by decide +kernel
theorem dX11_fallAll_23 : decode cX11_fallAll 23 = .ok (.if_icmp .ge 54, 3) := by decide +kernel
theorem dX11_fallAll_77 : decode cX11_fallAll 77 = .ok (.aload_n 0, 1) := by decide +kernel
theorem dX11_fallAll_78 : decode cX11_fallAll 78 = .ok (.iload_n 2, 1) := by decide +kernel
theorem dX11_fallAll_79 : decode cX11_fallAll 79 = .ok (.iload_n 3, 1) := by decide +kernel
theorem dX11_fallAll_80 : decode cX11_fallAll 80 = .ok (.invokevirtual 348, 3) := by decide +kernel
theorem dX11_fallAll_83 : decode cX11_fallAll 83 = .ok (.iinc 2 1, 3) := by decide +kernel
theorem dX11_fallAll_86 : decode cX11_fallAll 86 = .ok (.goto (-84), 3) := by decide +kernel
theorem dX11_fallAll_89 : decode cX11_fallAll 89 = .ok (.return_, 1) := by decide +kernel
theorem dX11_goesTo_0 : decode cX11_goesTo 0 = .ok (.aload_n 0, 1) := by decide +kernel
theorem dX11_goesTo_1 : decode cX11_goesTo 1 = .ok (.getfield 9, 3) := by decide +kernel
theorem dX11_goesTo_4 : decode cX11_goesTo 4 = .ok (.bipush 40, 2) := by decide +kernel
theorem dX11_goesTo_6 : decode cX11_goesTo 6 = .ok (.iload_n 1, 1) := by decide +kernel
theorem dX11_goesTo_7 : decode cX11_goesTo 7 = .ok (.iastore, 1) := by decide +kernel
theorem dX11_goesTo_8 : decode cX11_goesTo 8 = .ok (.aload_n 0, 1) := by decide +kernel
theorem dX11_goesTo_9 : decode cX11_goesTo 9 = .ok (.iconst 0, 1) := by decide +kernel
theorem dX11_goesTo_10 : decode cX11_goesTo 10 = .ok (.putfield 339, 3) := by decide +kernel
theorem dX11_goesTo_13 : decode cX11_goesTo 13 = .ok (.aload_n 0, 1) := by decide +kernel
theorem dX11_goesTo_14 : decode cX11_goesTo 14 = .ok (.iconst 0, 1) := by decide +kernel
theorem dX11_goesTo_15 : decode cX11_goesTo 15 = .ok (.putfield 342, 3) := by decide +kernel
theorem dX11_goesTo_18 : decode cX11_goesTo 18 = .ok (.aload_n 0, 1) := by decide +kernel
theorem dX11_goesTo_19 : decode cX11_goesTo 19 = .ok (.iconst 0, 1) := by decide +kernel
theorem dX11_goesTo_20 : decode cX11_goesTo 20 = .ok (.invokevirtual 351, 3) := by decide +kernel
theorem dX11_goesTo_23 : decode cX11_goesTo 23 = .ok (.return_, 1) := by decide +kernel
theorem dX11_hour_0 : decode cX11_hour 0 = .ok (.aload_n 0, 1) := by decide +kernel
theorem dX11_hour_1 : decode cX11_hour 1 = .ok (.aload_n 0, 1) := by decide +kernel
theorem dX11_hour_2 : decode cX11_hour 2 = .ok (.getfield 9, 3) := by decide +kernel
theorem dX11_hour_5 : decode cX11_hour 5 = .ok (.bipush 40, 2) := by decide +kernel
theorem dX11_hour_7 : decode cX11_hour 7 = .ok (.iaload, 1) := by decide +kernel
theorem dX11_hour_8 : decode cX11_hour 8 = .ok (.iconst 1, 1) := by decide +kernel
theorem dX11_hour_9 : decode cX11_hour 9 = .ok (.iadd, 1) := by decide +kernel
theorem dX11_hour_10 : decode cX11_hour 10 = .ok (.invokevirtual 355, 3) := by decide +kernel
theorem dX11_hour_13 : decode cX11_hour 13 = .ok (.return_, 1) := by decide +kernel
theorem dX11_nextHour_0 : decode cX11_nextHour 0 = .ok (.ldc_w 358, 3) := by decide +kernel
theorem dX11_nextHour_3 : decode cX11_nextHour 3 = .ok (.istore_n 1, 1) := by decide +kernel
theorem dX11_nextHour_4 : decode cX11_nextHour 4 = .ok (.iconst 0, 1) := by decide +kernel
theorem dX11_nextHour_5 : decode cX11_nextHour 5 = .ok (.istore_n 2, 1) := by decide +kernel
theorem dX11_nextHour_6 : decode cX11_nextHour 6 = .ok (.iload_n 2, 1) := by decide +kernel
theorem dX11_nextHour_7 : decode cX11_nextHour 7 = .ok (.aload_n 0, 1) := by decide +kernel
theorem dX11_nextHour_8 : decode cX11_nextHour 8 = .ok (.invokevirtual 280, 3) := by decide +kernel
theorem dX11_nextHour_11 : decode cX11_nextHour 11 = .ok (.if_icmp .ge 32, 3) := by decide +kernel
theorem dX11_nextHour_43 : decode cX11_nextHour 43 = .ok (.iload_n 1, 1) := by decide +kernel
theorem dX11_nextHour_44 : decode cX11_nextHour 44 = .ok (.ireturn, 1) := by decide +kernel
theorem dX11_thing_0 : decode cX11_thing 0 = .ok (.aload_n 0, 1) := by decide +kernel
theorem dX11_thing_1 : decode cX11_thing 1 = .ok (.aload_n 0, 1) := by decide +kernel
theorem dX11_thing_2 : decode cX11_thing 2 = .ok (.iload_n 1, 1) := by decide +kernel
theorem dX11_thing_3 : decode cX11_thing 3 = .ok (.i2l, 1) := by decide +kernel
theorem dX11_thing_4 : decode cX11_thing 4 = .ok (.invokevirtual 363, 3) := by decide +kernel
theorem dX11_thing_7 : decode cX11_thing 7 = .ok (.ifCond .ne 7, 3) := by decide +kernel
theorem dX11_thing_10 : decode cX11_thing 10 = .ok (.iconst 1, 1) := by decide +kernel
theorem dX11_thing_11 : decode cX11_thing 11 = .ok (.goto 20, 3) := by decide +kernel
theorem dX11_thing_31 : decode cX11_thing 31 = .ok (.putfield 70, 3) := by decide +kernel
theorem dX11_thing_34 : decode cX11_thing 34 = .ok (.aload_n 0, 1) := by decide +kernel
theorem dX11_thing_35 : decode cX11_thing 35 = .ok (.getfield 70, 3) := by decide +kernel
theorem dX11_thing_38 : decode cX11_thing 38 = .ok (.ifCond .le 5, 3) := by decide +kernel
theorem dX11_thing_41 : decode cX11_thing 41 = .ok (.iconst 0, 1) := by decide +kernel
theorem dX11_thing_42 : decode cX11_thing 42 = .ok (.ireturn, 1) := by decide +kernel
theorem dX11_walker_0 : decode cX11_walker 0 = .ok (.aload_n 0, 1) := by decide +kernel
theorem dX11_walker_1 : decode cX11_walker 1 = .ok (.aload_n 0, 1) := by decide +kernel
theorem dX11_walker_2 : decode cX11_walker 2 = .ok (.iload_n 1, 1) := by decide +kernel
theorem dX11_walker_3 : decode cX11_walker 3 = .ok (.invokevirtual 368, 3) := by decide +kernel
theorem dX11_walker_6 : decode cX11_walker 6 = .ok (.ifCond .ne 7, 3) := by decide +kernel
theorem dX11_walker_9 : decode cX11_walker 9 = .ok (.iconst 1, 1) := by decide +kernel
theorem dX11_walker_10 : decode cX11_walker 10 = .ok (.goto 20, 3) := by decide +kernel
theorem dX11_walker_30 : decode cX11_walker 30 = .ok (.putfield 70, 3) := by decide +kernel
theorem dX11_walker_33 : decode cX11_walker 33 = .ok (.aload_n 0, 1) := by decide +kernel
theorem dX11_walker_34 : decode cX11_walker 34 = .ok (.getfield 70, 3) := by decide +kernel
theorem dX11_walker_37 : decode cX11_walker 37 = .ok (.ifCond .le 5, 3) := by decide +kernel
theorem dX11_walker_40 : decode cX11_walker 40 = .ok (.iconst 0, 1) := by decide +kernel
theorem dX11_walker_41 : decode cX11_walker 41 = .ok (.ireturn, 1) := by decide +kernel
theorem dX11_height_0 : decode cX11_height 0 = .ok (.aload_n 0, 1) := by decide +kernel
theorem dX11_height_1 : decode cX11_height 1 = .ok (.iconst 0, 1) := by decide +kernel
theorem dX11_height_2 : decode cX11_height 2 = .ok (.putfield 70, 3) := by decide +kernel
theorem dX11_height_5 : decode cX11_height 5 = .ok (.aload_n 0, 1) := by decide +kernel
theorem dX11_height_6 : decode cX11_height 6 = .ok (.iload_n 1, 1) := by decide +kernel
theorem dX11_height_7 : decode cX11_height 7 = .ok (.i2l, 1) := by decide +kernel
theorem dX11_height_8 : decode cX11_height 8 = .ok (.invokevirtual 286, 3) := by decide +kernel
theorem dX11_height_11 : decode cX11_height 11 = .ok (.ifCond .eq 11, 3) := by decide +kernel
theorem dX11_height_14 : decode cX11_height 14 = .ok (.aload_n 0, 1) := by decide +kernel
theorem dX11_height_15 : decode cX11_height 15 = .ok (.iload_n 1, 1) := by decide +kernel
theorem dX11_height_16 : decode cX11_height 16 = .ok (.invokevirtual 311, 3) := by decide +kernel
theorem dX11_height_19 : decode cX11_height 19 = .ok (.goto 8, 3) := by decide +kernel
theorem dX11_height_22 : decode cX11_height 22 = .ok (.aload_n 0, 1) := by decide +kernel
theorem dX11_height_23 : decode cX11_height 23 = .ok (.iconst 1, 1) := by decide +kernel
theorem dX11_height_24 : decode cX11_height 24 = .ok (.invokevirtual 269, 3) := by decide +kernel
theorem dX11_height_27 : decode cX11_height 27 = .ok (.ireturn, 1) := by decide +kernel
theorem dX11_at_0 : decode cX11_at 0 = .ok (.aload_n 0, 1) := by decide +kernel
theorem dX11_at_1 : decode cX11_at 1 = .ok (.iconst 0, 1) := by decide +kernel
theorem dX11_at_2 : decode cX11_at 2 = .ok (.putfield 70, 3) := by decide +kernel
theorem dX11_at_5 : decode cX11_at 5 = .ok (.aload_n 0, 1) := by decide +kernel
theorem dX11_at_6 : decode cX11_at 6 = .ok (.iload_n 1, 1) := by decide +kernel
theorem dX11_at_7 : decode cX11_at 7 = .ok (.i2l, 1) := by decide +kernel
theorem dX11_at_8 : decode cX11_at 8 = .ok (.iload_n 2, 1) := by decide +kernel
theorem dX11_at_9 : decode cX11_at 9 = .ok (.i2l, 1) := by decide +kernel
theorem dX11_at_10 : decode cX11_at 10 = .ok (.invokevirtual 373, 3) := by decide +kernel
theorem dX11_at_13 : decode cX11_at 13 = .ok (.ifCond .ne 9, 3) := by decide +kernel
theorem dX11_at_16 : decode cX11_at 16 = .ok (.aload_n 0, 1) := by decide +kernel
theorem dX11_at_17 : decode cX11_at 17 = .ok (.iconst 1, 1) := by decide +kernel
theorem dX11_at_18 : decode cX11_at 18 = .ok (.invokevirtual 269, 3) := by decide +kernel
theorem dX11_at_21 : decode cX11_at 21 = .ok (.ireturn, 1) := by decide +kernel
theorem dX11_at_22 : decode cX11_at 22 = .ok (.iconst 0, 1) := by decide +kernel
theorem dX11_at_23 : decode cX11_at 23 = .ok (.istore_n 3, 1) := by decide +kernel
theorem dX11_at_24 : decode cX11_at 24 = .ok (.iload_n 3, 1) := by decide +kernel
theorem dX11_at_25 : decode cX11_at 25 = .ok (.aload_n 0, 1) := by decide +kernel
theorem dX11_at_26 : decode cX11_at 26 = .ok (.invokevirtual 280, 3) := by decide +kernel
theorem dX11_at_29 : decode cX11_at 29 = .ok (.if_icmp .ge 46, 3) := by decide +kernel
theorem dX11_at_75 : decode cX11_at 75 = .ok (.iconst (-1), 1) := by decide +kernel
theorem dX11_at_76 : decode cX11_at 76 = .ok (.ireturn, 1) := by decide +kernel
theorem dX11_hanging_0 : decode cX11_hanging 0 = .ok (.aload_n 0, 1) := by decide +kernel
theorem dX11_hanging_1 : decode cX11_hanging 1 = .ok (.aload_n 0, 1) := by decide +kernel
theorem dX11_hanging_2 : decode cX11_hanging 2 = .ok (.iload_n 1, 1) := by decide +kernel
theorem dX11_hanging_3 : decode cX11_hanging 3 = .ok (.i2l, 1) := by decide +kernel
theorem dX11_hanging_4 : decode cX11_hanging 4 = .ok (.invokevirtual 363, 3) := by decide +kernel
theorem dX11_hanging_7 : decode cX11_hanging 7 = .ok (.ifCond .eq 14, 3) := by decide +kernel
theorem dX11_hanging_21 : decode cX11_hanging 21 = .ok (.iconst 1, 1) := by decide +kernel
theorem dX11_hanging_22 : decode cX11_hanging 22 = .ok (.goto 21, 3) := by decide +kernel
theorem dX11_hanging_43 : decode cX11_hanging 43 = .ok (.putfield 70, 3) := by decide +kernel
theorem dX11_hanging_46 : decode cX11_hanging 46 = .ok (.aload_n 0, 1) := by decide +kernel
theorem dX11_hanging_47 : decode cX11_hanging 47 = .ok (.getfield 70, 3) := by decide +kernel
theorem dX11_hanging_50 : decode cX11_hanging 50 = .ok (.ifCond .le 7, 3) := by decide +kernel
theorem dX11_hanging_53 : decode cX11_hanging 53 = .ok (.iconst 0, 1) := by decide +kernel
theorem dX11_hanging_54 : decode cX11_hanging 54 = .ok (.goto 27, 3) := by decide +kernel
theorem dX11_hanging_81 : decode cX11_hanging 81 = .ok (.ireturn, 1) := by decide +kernel
theorem dX11_keeps_0 : decode cX11_keeps 0 = .ok (.aload_n 0, 1) := by decide +kernel
theorem dX11_keeps_1 : decode cX11_keeps 1 = .ok (.getfield 9, 3) := by decide +kernel
theorem dX11_keeps_4 : decode cX11_keeps 4 = .ok (.bipush 7, 2) := by decide +kernel
theorem dX11_keeps_6 : decode cX11_keeps 6 = .ok (.iaload, 1) := by decide +kernel
theorem dX11_keeps_7 : decode cX11_keeps 7 = .ok (.bipush 10, 2) := by decide +kernel
theorem dX11_keeps_9 : decode cX11_keeps 9 = .ok (.if_icmp .ne 45, 3) := by decide +kernel
theorem dX11_keeps_54 : decode cX11_keeps 54 = .ok (.iconst 0, 1) := by decide +kernel
theorem dX11_keeps_55 : decode cX11_keeps 55 = .ok (.istore_n 1, 1) := by decide +kernel
theorem dX11_keeps_56 : decode cX11_keeps 56 = .ok (.iload_n 1, 1) := by decide +kernel
theorem dX11_keeps_57 : decode cX11_keeps 57 = .ok (.bipush 37, 2) := by decide +kernel
theorem dX11_keeps_59 : decode cX11_keeps 59 = .ok (.if_icmp .ge 38, 3) := by decide +kernel
theorem dX11_keeps_62 : decode cX11_keeps 62 = .ok (.aload_n 0, 1) := by decide +kernel
theorem dX11_keeps_63 : decode cX11_keeps 63 = .ok (.getfield 9, 3) := by decide +kernel
theorem dX11_keeps_66 : decode cX11_keeps 66 = .ok (.bipush 89, 2) := by decide +kernel
theorem dX11_keeps_68 : decode cX11_keeps 68 = .ok (.bipush 37, 2) := by decide +kernel
theorem dX11_keeps_70 : decode cX11_keeps 70 = .ok (.aload_n 0, 1) := by decide +kernel
theorem dX11_keeps_71 : decode cX11_keeps 71 = .ok (.getfield 9, 3) := by decide +kernel
theorem dX11_keeps_74 : decode cX11_keeps 74 = .ok (.bipush 7, 2) := by decide +kernel
theorem dX11_keeps_76 : decode cX11_keeps 76 = .ok (.iaload, 1) := by decide +kernel
theorem dX11_keeps_77 : decode cX11_keeps 77 = .ok (.imul, 1) := by decide +kernel
theorem dX11_keeps_78 : decode cX11_keeps 78 = .ok (.iadd, 1) := by decide +kernel
theorem dX11_keeps_79 : decode cX11_keeps 79 = .ok (.iload_n 1, 1) := by decide +kernel
theorem dX11_keeps_80 : decode cX11_keeps 80 = .ok (.iadd, 1) := by decide +kernel
theorem dX11_keeps_81 : decode cX11_keeps 81 = .ok (.aload_n 0, 1) := by decide +kernel
theorem dX11_keeps_82 : decode cX11_keeps 82 = .ok (.getfield 9, 3) := by decide +kernel
theorem dX11_keeps_85 : decode cX11_keeps 85 = .ok (.bipush 8, 2) := by decide +kernel
theorem dX11_keeps_87 : decode cX11_keeps 87 = .ok (.iload_n 1, 1) := by decide +kernel
theorem dX11_keeps_88 : decode cX11_keeps 88 = .ok (.iadd, 1) := by decide +kernel
theorem dX11_keeps_89 : decode cX11_keeps 89 = .ok (.iaload, 1) := by decide +kernel
theorem dX11_keeps_90 : decode cX11_keeps 90 = .ok (.iastore, 1) := by decide +kernel
theorem dX11_keeps_91 : decode cX11_keeps 91 = .ok (.iinc 1 1, 3) := by decide +kernel
theorem dX11_keeps_94 : decode cX11_keeps 94 = .ok (.goto (-38), 3) := by decide +kernel
theorem dX11_keeps_97 : decode cX11_keeps 97 = .ok (.aload_n 0, 1) := by decide +kernel
theorem dX11_keeps_98 : decode cX11_keeps 98 = .ok (.getfield 9, 3) := by decide +kernel
theorem dX11_keeps_101 : decode cX11_keeps 101 = .ok (.bipush 7, 2) := by decide +kernel
theorem dX11_keeps_103 : decode cX11_keeps 103 = .ok (.dup2, 1) := by decide +kernel
theorem dX11_keeps_104 : decode cX11_keeps 104 = .ok (.iaload, 1) := by decide +kernel
theorem dX11_keeps_105 : decode cX11_keeps 105 = .ok (.iconst 1, 1) := by decide +kernel
theorem dX11_keeps_106 : decode cX11_keeps 106 = .ok (.iadd, 1) := by decide +kernel
theorem dX11_keeps_107 : decode cX11_keeps 107 = .ok (.iastore, 1) := by decide +kernel
theorem dX11_keeps_108 : decode cX11_keeps 108 = .ok (.return_, 1) := by decide +kernel
theorem dX11_putsAside_0 : decode cX11_putsAside 0 = .ok (.iconst 0, 1) := by decide +kernel
theorem dX11_putsAside_1 : decode cX11_putsAside 1 = .ok (.istore_n 1, 1) := by decide +kernel
theorem dX11_putsAside_2 : decode cX11_putsAside 2 = .ok (.iload_n 1, 1) := by decide +kernel
theorem dX11_putsAside_3 : decode cX11_putsAside 3 = .ok (.bipush 37, 2) := by decide +kernel
theorem dX11_putsAside_5 : decode cX11_putsAside 5 = .ok (.if_icmp .ge 24, 3) := by decide +kernel
theorem dX11_putsAside_8 : decode cX11_putsAside 8 = .ok (.aload_n 0, 1) := by decide +kernel
theorem dX11_putsAside_9 : decode cX11_putsAside 9 = .ok (.getfield 36, 3) := by decide +kernel
theorem dX11_putsAside_12 : decode cX11_putsAside 12 = .ok (.iload_n 1, 1) := by decide +kernel
theorem dX11_putsAside_13 : decode cX11_putsAside 13 = .ok (.aload_n 0, 1) := by decide +kernel
theorem dX11_putsAside_14 : decode cX11_putsAside 14 = .ok (.getfield 9, 3) := by decide +kernel
theorem dX11_putsAside_17 : decode cX11_putsAside 17 = .ok (.bipush 8, 2) := by decide +kernel
theorem dX11_putsAside_19 : decode cX11_putsAside 19 = .ok (.iload_n 1, 1) := by decide +kernel
theorem dX11_putsAside_20 : decode cX11_putsAside 20 = .ok (.iadd, 1) := by decide +kernel
theorem dX11_putsAside_21 : decode cX11_putsAside 21 = .ok (.iaload, 1) := by decide +kernel
theorem dX11_putsAside_22 : decode cX11_putsAside 22 = .ok (.iastore, 1) := by decide +kernel
theorem dX11_putsAside_23 : decode cX11_putsAside 23 = .ok (.iinc 1 1, 3) := by decide +kernel
theorem dX11_putsAside_26 : decode cX11_putsAside 26 = .ok (.goto (-24), 3) := by decide +kernel
theorem dX11_putsAside_29 : decode cX11_putsAside 29 = .ok (.return_, 1) := by decide +kernel
theorem dX11_putsBack_0 : decode cX11_putsBack 0 = .ok (.iconst 0, 1) := by decide +kernel
theorem dX11_putsBack_1 : decode cX11_putsBack 1 = .ok (.istore_n 1, 1) := by decide +kernel
theorem dX11_putsBack_2 : decode cX11_putsBack 2 = .ok (.iload_n 1, 1) := by decide +kernel
theorem dX11_putsBack_3 : decode cX11_putsBack 3 = .ok (.bipush 37, 2) := by decide +kernel
theorem dX11_putsBack_5 : decode cX11_putsBack 5 = .ok (.if_icmp .ge 24, 3) := by decide +kernel
theorem dX11_putsBack_8 : decode cX11_putsBack 8 = .ok (.aload_n 0, 1) := by decide +kernel
theorem dX11_putsBack_9 : decode cX11_putsBack 9 = .ok (.getfield 9, 3) := by decide +kernel
theorem dX11_putsBack_12 : decode cX11_putsBack 12 = .ok (.bipush 8, 2) := by decide +kernel
theorem dX11_putsBack_14 : decode cX11_putsBack 14 = .ok (.iload_n 1, 1) := by decide +kernel
theorem dX11_putsBack_15 : decode cX11_putsBack 15 = .ok (.iadd, 1) := by decide +kernel
theorem dX11_putsBack_16 : decode cX11_putsBack 16 = .ok (.aload_n 0, 1) := by decide +kernel
theorem dX11_putsBack_17 : decode cX11_putsBack 17 = .ok (.getfield 36, 3) := by decide +kernel
theorem dX11_putsBack_20 : decode cX11_putsBack 20 = .ok (.iload_n 1, 1) := by decide +kernel
theorem dX11_putsBack_21 : decode cX11_putsBack 21 = .ok (.iaload, 1) := by decide +kernel
theorem dX11_putsBack_22 : decode cX11_putsBack 22 = .ok (.iastore, 1) := by decide +kernel
theorem dX11_putsBack_23 : decode cX11_putsBack 23 = .ok (.iinc 1 1, 3) := by decide +kernel
theorem dX11_putsBack_26 : decode cX11_putsBack 26 = .ok (.goto (-24), 3) := by decide +kernel
theorem dX11_putsBack_29 : decode cX11_putsBack 29 = .ok (.return_, 1) := by decide +kernel
theorem dX11_whyLet_0 : decode cX11_whyLet 0 = .ok (.aload_n 0, 1) := by decide +kernel
theorem dX11_whyLet_1 : decode cX11_whyLet 1 = .ok (.lload_n 1, 1) := by decide +kernel
theorem dX11_whyLet_2 : decode cX11_whyLet 2 = .ok (.invokevirtual 363, 3) := by decide +kernel
theorem dX11_whyLet_5 : decode cX11_whyLet 5 = .ok (.ifCond .eq 13, 3) := by decide +kernel
theorem dX11_whyLet_18 : decode cX11_whyLet 18 = .ok (.iconst 1, 1) := by decide +kernel
theorem dX11_whyLet_19 : decode cX11_whyLet 19 = .ok (.ireturn, 1) := by decide +kernel
theorem dX11_whyTake_0 : decode cX11_whyTake 0 = .ok (.aload_n 0, 1) := by decide +kernel
theorem dX11_whyTake_1 : decode cX11_whyTake 1 = .ok (.lload_n 1, 1) := by decide +kernel
theorem dX11_whyTake_2 : decode cX11_whyTake 2 = .ok (.invokevirtual 363, 3) := by decide +kernel
theorem dX11_whyTake_5 : decode cX11_whyTake 5 = .ok (.ifCond .ne 5, 3) := by decide +kernel
theorem dX11_whyTake_8 : decode cX11_whyTake 8 = .ok (.iconst 1, 1) := by decide +kernel
theorem dX11_whyTake_9 : decode cX11_whyTake 9 = .ok (.ireturn, 1) := by decide +kernel
theorem dX11_letGo_0 : decode cX11_letGo 0 = .ok (.aload_n 0, 1) := by decide +kernel
theorem dX11_letGo_1 : decode cX11_letGo 1 = .ok (.iconst 0, 1) := by decide +kernel
theorem dX11_letGo_2 : decode cX11_letGo 2 = .ok (.putfield 70, 3) := by decide +kernel
theorem dX11_letGo_5 : decode cX11_letGo 5 = .ok (.aload_n 0, 1) := by decide +kernel
theorem dX11_letGo_6 : decode cX11_letGo 6 = .ok (.iload_n 1, 1) := by decide +kernel
theorem dX11_letGo_7 : decode cX11_letGo 7 = .ok (.i2l, 1) := by decide +kernel
theorem dX11_letGo_8 : decode cX11_letGo 8 = .ok (.iload_n 2, 1) := by decide +kernel
theorem dX11_letGo_9 : decode cX11_letGo 9 = .ok (.i2l, 1) := by decide +kernel
theorem dX11_letGo_10 : decode cX11_letGo 10 = .ok (.iload_n 3, 1) := by decide +kernel
theorem dX11_letGo_11 : decode cX11_letGo 11 = .ok (.i2l, 1) := by decide +kernel
theorem dX11_letGo_12 : decode cX11_letGo 12 = .ok (.invokevirtual 379, 3) := by decide +kernel
theorem dX11_letGo_15 : decode cX11_letGo 15 = .ok (.istore 4, 2) := by decide +kernel
theorem dX11_letGo_17 : decode cX11_letGo 17 = .ok (.iload 4, 2) := by decide +kernel
theorem dX11_letGo_19 : decode cX11_letGo 19 = .ok (.ifCond .eq 7, 3) := by decide +kernel
theorem dX11_letGo_22 : decode cX11_letGo 22 = .ok (.iload 4, 2) := by decide +kernel
theorem dX11_letGo_24 : decode cX11_letGo 24 = .ok (.ineg, 1) := by decide +kernel
theorem dX11_letGo_25 : decode cX11_letGo 25 = .ok (.ireturn, 1) := by decide +kernel
theorem dX11_take_0 : decode cX11_take 0 = .ok (.aload_n 0, 1) := by decide +kernel
theorem dX11_take_1 : decode cX11_take 1 = .ok (.iconst 0, 1) := by decide +kernel
theorem dX11_take_2 : decode cX11_take 2 = .ok (.putfield 70, 3) := by decide +kernel
theorem dX11_take_5 : decode cX11_take 5 = .ok (.aload_n 0, 1) := by decide +kernel
theorem dX11_take_6 : decode cX11_take 6 = .ok (.iload_n 1, 1) := by decide +kernel
theorem dX11_take_7 : decode cX11_take 7 = .ok (.i2l, 1) := by decide +kernel
theorem dX11_take_8 : decode cX11_take 8 = .ok (.invokevirtual 390, 3) := by decide +kernel
theorem dX11_take_11 : decode cX11_take 11 = .ok (.istore_n 2, 1) := by decide +kernel
theorem dX11_take_12 : decode cX11_take 12 = .ok (.iload_n 2, 1) := by decide +kernel
theorem dX11_take_13 : decode cX11_take 13 = .ok (.ifCond .eq 6, 3) := by decide +kernel
theorem dX11_take_16 : decode cX11_take 16 = .ok (.iload_n 2, 1) := by decide +kernel
theorem dX11_take_17 : decode cX11_take 17 = .ok (.ineg, 1) := by decide +kernel
theorem dX11_take_18 : decode cX11_take 18 = .ok (.ireturn, 1) := by decide +kernel
theorem dX11_quakes_0 : decode cX11_quakes 0 = .ok (.aload_n 0, 1) := by decide +kernel
theorem dX11_quakes_1 : decode cX11_quakes 1 = .ok (.iconst 0, 1) := by decide +kernel
theorem dX11_quakes_2 : decode cX11_quakes 2 = .ok (.putfield 339, 3) := by decide +kernel
theorem dX11_quakes_5 : decode cX11_quakes 5 = .ok (.aload_n 0, 1) := by decide +kernel
theorem dX11_quakes_6 : decode cX11_quakes 6 = .ok (.iconst 0, 1) := by decide +kernel
theorem dX11_quakes_7 : decode cX11_quakes 7 = .ok (.putfield 342, 3) := by decide +kernel
theorem dX11_quakes_10 : decode cX11_quakes 10 = .ok (.aload_n 0, 1) := by decide +kernel
theorem dX11_quakes_11 : decode cX11_quakes 11 = .ok (.iconst 1, 1) := by decide +kernel
theorem dX11_quakes_12 : decode cX11_quakes 12 = .ok (.invokevirtual 351, 3) := by decide +kernel
theorem dX11_quakes_15 : decode cX11_quakes 15 = .ok (.aload_n 0, 1) := by decide +kernel
theorem dX11_quakes_16 : decode cX11_quakes 16 = .ok (.getfield 339, 3) := by decide +kernel
theorem dX11_quakes_19 : decode cX11_quakes 19 = .ok (.invokestatic 330, 3) := by decide +kernel
theorem dX11_quakes_22 : decode cX11_quakes 22 = .ok (.ireturn, 1) := by decide +kernel
theorem dX11_quake_0 : decode cX11_quake 0 = .ok (.aload_n 0, 1) := by decide +kernel
theorem dX11_quake_1 : decode cX11_quake 1 = .ok (.iconst 0, 1) := by decide +kernel
theorem dX11_quake_2 : decode cX11_quake 2 = .ok (.putfield 70, 3) := by decide +kernel
theorem dX11_quake_5 : decode cX11_quake 5 = .ok (.aload_n 0, 1) := by decide +kernel
theorem dX11_quake_6 : decode cX11_quake 6 = .ok (.invokevirtual 383, 3) := by decide +kernel
theorem dX11_quake_9 : decode cX11_quake 9 = .ok (.aload_n 0, 1) := by decide +kernel
theorem dX11_quake_10 : decode cX11_quake 10 = .ok (.invokevirtual 396, 3) := by decide +kernel
theorem dX11_quake_13 : decode cX11_quake 13 = .ok (.ireturn, 1) := by decide +kernel
theorem dX11_hours_0 : decode cX11_hours 0 = .ok (.aload_n 0, 1) := by decide +kernel
theorem dX11_hours_1 : decode cX11_hours 1 = .ok (.iconst 0, 1) := by decide +kernel
theorem dX11_hours_2 : decode cX11_hours 2 = .ok (.putfield 70, 3) := by decide +kernel
theorem dX11_hours_5 : decode cX11_hours 5 = .ok (.iload_n 1, 1) := by decide +kernel
theorem dX11_hours_6 : decode cX11_hours 6 = .ok (.i2l, 1) := by decide +kernel
theorem dX11_hours_7 : decode cX11_hours 7 = .ok (.lconst 1, 1) := by decide +kernel
theorem dX11_hours_8 : decode cX11_hours 8 = .ok (.ldc2_w 399, 3) := by decide +kernel
theorem dX11_hours_11 : decode cX11_hours 11 = .ok (.invokestatic 131, 3) := by decide +kernel
theorem dX11_hours_14 : decode cX11_hours 14 = .ok (.ifCond .ne 9, 3) := by decide +kernel
theorem dX11_hours_17 : decode cX11_hours 17 = .ok (.aload_n 0, 1) := by decide +kernel
theorem dX11_hours_18 : decode cX11_hours 18 = .ok (.iconst 1, 1) := by decide +kernel
theorem dX11_hours_19 : decode cX11_hours 19 = .ok (.invokevirtual 269, 3) := by decide +kernel
theorem dX11_hours_22 : decode cX11_hours 22 = .ok (.ireturn, 1) := by decide +kernel
theorem dX11_hours_23 : decode cX11_hours 23 = .ok (.aload_n 0, 1) := by decide +kernel
theorem dX11_hours_24 : decode cX11_hours 24 = .ok (.invokevirtual 383, 3) := by decide +kernel
theorem dX11_hours_27 : decode cX11_hours 27 = .ok (.iconst 0, 1) := by decide +kernel
theorem dX11_hours_28 : decode cX11_hours 28 = .ok (.istore_n 2, 1) := by decide +kernel
theorem dX11_hours_29 : decode cX11_hours 29 = .ok (.iconst 0, 1) := by decide +kernel
theorem dX11_hours_30 : decode cX11_hours 30 = .ok (.istore_n 3, 1) := by decide +kernel
theorem dX11_hours_31 : decode cX11_hours 31 = .ok (.iload_n 3, 1) := by decide +kernel
theorem dX11_hours_32 : decode cX11_hours 32 = .ok (.iload_n 1, 1) := by decide +kernel
theorem dX11_hours_33 : decode cX11_hours 33 = .ok (.if_icmp .ge 23, 3) := by decide +kernel
theorem dX11_hours_36 : decode cX11_hours 36 = .ok (.aload_n 0, 1) := by decide +kernel
theorem dX11_hours_37 : decode cX11_hours 37 = .ok (.invokevirtual 401, 3) := by decide +kernel
theorem dX11_hours_40 : decode cX11_hours 40 = .ok (.iload_n 2, 1) := by decide +kernel
theorem dX11_hours_41 : decode cX11_hours 41 = .ok (.aload_n 0, 1) := by decide +kernel
theorem dX11_hours_42 : decode cX11_hours 42 = .ok (.getfield 339, 3) := by decide +kernel
theorem dX11_hours_45 : decode cX11_hours 45 = .ok (.invokestatic 330, 3) := by decide +kernel
theorem dX11_hours_48 : decode cX11_hours 48 = .ok (.iadd, 1) := by decide +kernel
theorem dX11_hours_49 : decode cX11_hours 49 = .ok (.istore_n 2, 1) := by decide +kernel
theorem dX11_hours_50 : decode cX11_hours 50 = .ok (.iinc 3 1, 3) := by decide +kernel
theorem dX11_hours_53 : decode cX11_hours 53 = .ok (.goto (-22), 3) := by decide +kernel
theorem dX11_hours_56 : decode cX11_hours 56 = .ok (.iload_n 2, 1) := by decide +kernel
theorem dX11_hours_57 : decode cX11_hours 57 = .ok (.ireturn, 1) := by decide +kernel
theorem dX11_undo_0 : decode cX11_undo 0 = .ok (.aload_n 0, 1) := by decide +kernel
theorem dX11_undo_1 : decode cX11_undo 1 = .ok (.iconst 0, 1) := by decide +kernel
theorem dX11_undo_2 : decode cX11_undo 2 = .ok (.putfield 70, 3) := by decide +kernel
theorem dX11_undo_5 : decode cX11_undo 5 = .ok (.iload_n 1, 1) := by decide +kernel
theorem dX11_undo_6 : decode cX11_undo 6 = .ok (.i2l, 1) := by decide +kernel
theorem dX11_undo_7 : decode cX11_undo 7 = .ok (.lconst 1, 1) := by decide +kernel
theorem dX11_undo_8 : decode cX11_undo 8 = .ok (.ldc2_w 403, 3) := by decide +kernel
theorem dX11_undo_11 : decode cX11_undo 11 = .ok (.invokestatic 131, 3) := by decide +kernel
theorem dX11_undo_14 : decode cX11_undo 14 = .ok (.ifCond .eq 14, 3) := by decide +kernel
theorem dX11_undo_17 : decode cX11_undo 17 = .ok (.iload_n 1, 1) := by decide +kernel
theorem dX11_undo_18 : decode cX11_undo 18 = .ok (.aload_n 0, 1) := by decide +kernel
theorem dX11_undo_19 : decode cX11_undo 19 = .ok (.getfield 9, 3) := by decide +kernel
theorem dX11_undo_22 : decode cX11_undo 22 = .ok (.bipush 7, 2) := by decide +kernel
theorem dX11_undo_24 : decode cX11_undo 24 = .ok (.iaload, 1) := by decide +kernel
theorem dX11_undo_25 : decode cX11_undo 25 = .ok (.if_icmp .le 9, 3) := by decide +kernel
theorem dX11_undo_28 : decode cX11_undo 28 = .ok (.aload_n 0, 1) := by decide +kernel
theorem dX11_undo_29 : decode cX11_undo 29 = .ok (.iconst 1, 1) := by decide +kernel
theorem dX11_undo_30 : decode cX11_undo 30 = .ok (.invokevirtual 269, 3) := by decide +kernel
theorem dX11_undo_33 : decode cX11_undo 33 = .ok (.ireturn, 1) := by decide +kernel
theorem dX11_trayFault_0 : decode cX11_trayFault 0 = .ok (.iload_n 1, 1) := by decide +kernel
theorem dX11_trayFault_1 : decode cX11_trayFault 1 = .ok (.invokestatic 405, 3) := by decide +kernel
theorem dX11_trayFault_4 : decode cX11_trayFault 4 = .ok (.ifCond .ne 7, 3) := by decide +kernel
theorem dX11_trayFault_7 : decode cX11_trayFault 7 = .ok (.iconst 1, 1) := by decide +kernel
theorem dX11_trayFault_8 : decode cX11_trayFault 8 = .ok (.goto 18, 3) := by decide +kernel
theorem dX11_trayFault_11 : decode cX11_trayFault 11 = .ok (.aload_n 0, 1) := by decide +kernel
theorem dX11_trayFault_12 : decode cX11_trayFault 12 = .ok (.getfield 61, 3) := by decide +kernel
theorem dX11_trayFault_15 : decode cX11_trayFault 15 = .ok (.iload_n 1, 1) := by decide +kernel
theorem dX11_trayFault_16 : decode cX11_trayFault 16 = .ok (.iaload, 1) := by decide +kernel
theorem dX11_trayFault_17 : decode cX11_trayFault 17 = .ok (.iconst (-1), 1) := by decide +kernel
theorem dX11_trayFault_18 : decode cX11_trayFault 18 = .ok (.if_icmp .ne 7, 3) := by decide +kernel
theorem dX11_trayFault_21 : decode cX11_trayFault 21 = .ok (.iconst 2, 1) := by decide +kernel
theorem dX11_trayFault_22 : decode cX11_trayFault 22 = .ok (.goto 4, 3) := by decide +kernel
theorem dX11_trayFault_26 : decode cX11_trayFault 26 = .ok (.ireturn, 1) := by decide +kernel
theorem dX11_whyTold_0 : decode cX11_whyTold 0 = .ok (.lload_n 1, 1) := by decide +kernel
theorem dX11_whyTold_1 : decode cX11_whyTold 1 = .ok (.ldc2_w 408, 3) := by decide +kernel
theorem dX11_whyTold_4 : decode cX11_whyTold 4 = .ok (.lcmp, 1) := by decide +kernel
theorem dX11_whyTold_5 : decode cX11_whyTold 5 = .ok (.ifCond .eq 11, 3) := by decide +kernel
theorem dX11_whyTold_8 : decode cX11_whyTold 8 = .ok (.lload_n 1, 1) := by decide +kernel
theorem dX11_whyTold_9 : decode cX11_whyTold 9 = .ok (.ldc2_w 410, 3) := by decide +kernel
theorem dX11_whyTold_12 : decode cX11_whyTold 12 = .ok (.lcmp, 1) := by decide +kernel
theorem dX11_whyTold_13 : decode cX11_whyTold 13 = .ok (.ifCond .ne 5, 3) := by decide +kernel
theorem dX11_whyTold_16 : decode cX11_whyTold 16 = .ok (.iconst 0, 1) := by decide +kernel
theorem dX11_whyTold_17 : decode cX11_whyTold 17 = .ok (.ireturn, 1) := by decide +kernel
theorem dX11_whyTold_18 : decode cX11_whyTold 18 = .ok (.lload_n 1, 1) := by decide +kernel
theorem dX11_whyTold_19 : decode cX11_whyTold 19 = .ok (.lconst 0, 1) := by decide +kernel
theorem dX11_whyTold_20 : decode cX11_whyTold 20 = .ok (.ldc2_w 412, 3) := by decide +kernel
theorem dX11_whyTold_23 : decode cX11_whyTold 23 = .ok (.invokestatic 131, 3) := by decide +kernel
theorem dX11_whyTold_26 : decode cX11_whyTold 26 = .ok (.ifCond .eq 27, 3) := by decide +kernel
theorem dX11_whyTold_29 : decode cX11_whyTold 29 = .ok (.aload_n 0, 1) := by decide +kernel
theorem dX11_whyTold_30 : decode cX11_whyTold 30 = .ok (.lload_n 1, 1) := by decide +kernel
theorem dX11_whyTold_31 : decode cX11_whyTold 31 = .ok (.ldc2_w 414, 3) := by decide +kernel
theorem dX11_whyTold_34 : decode cX11_whyTold 34 = .ok (.ldiv, 1) := by decide +kernel
theorem dX11_whyTold_35 : decode cX11_whyTold 35 = .ok (.lload_n 1, 1) := by decide +kernel
theorem dX11_whyTold_36 : decode cX11_whyTold 36 = .ok (.ldc2_w 403, 3) := by decide +kernel
theorem dX11_whyTold_39 : decode cX11_whyTold 39 = .ok (.ldiv, 1) := by decide +kernel
theorem dX11_whyTold_40 : decode cX11_whyTold 40 = .ok (.ldc2_w 403, 3) := by decide +kernel
theorem dX11_whyTold_43 : decode cX11_whyTold 43 = .ok (.lrem, 1) := by decide +kernel
theorem dX11_whyTold_44 : decode cX11_whyTold 44 = .ok (.lload_n 1, 1) := by decide +kernel
theorem dX11_whyTold_45 : decode cX11_whyTold 45 = .ok (.ldc2_w 403, 3) := by decide +kernel
theorem dX11_whyTold_48 : decode cX11_whyTold 48 = .ok (.lrem, 1) := by decide +kernel
theorem dX11_whyTold_49 : decode cX11_whyTold 49 = .ok (.invokevirtual 379, 3) := by decide +kernel
theorem dX11_whyTold_52 : decode cX11_whyTold 52 = .ok (.ireturn, 1) := by decide +kernel
theorem dX11_whyTold_53 : decode cX11_whyTold 53 = .ok (.lload_n 1, 1) := by decide +kernel
theorem dX11_whyTold_54 : decode cX11_whyTold 54 = .ok (.ldc2_w 416, 3) := by decide +kernel
theorem dX11_whyTold_57 : decode cX11_whyTold 57 = .ok (.ldc2_w 418, 3) := by decide +kernel
theorem dX11_whyTold_60 : decode cX11_whyTold 60 = .ok (.invokestatic 131, 3) := by decide +kernel
theorem dX11_whyTold_63 : decode cX11_whyTold 63 = .ok (.ifCond .eq 15, 3) := by decide +kernel
theorem dX11_whyTold_66 : decode cX11_whyTold 66 = .ok (.aload_n 0, 1) := by decide +kernel
theorem dX11_whyTold_67 : decode cX11_whyTold 67 = .ok (.lload_n 1, 1) := by decide +kernel
theorem dX11_whyTold_68 : decode cX11_whyTold 68 = .ok (.ldc2_w 416, 3) := by decide +kernel
theorem dX11_whyTold_71 : decode cX11_whyTold 71 = .ok (.lsub, 1) := by decide +kernel
theorem dX11_whyTold_72 : decode cX11_whyTold 72 = .ok (.invokevirtual 390, 3) := by decide +kernel
theorem dX11_whyTold_75 : decode cX11_whyTold 75 = .ok (.goto 4, 3) := by decide +kernel
theorem dX11_whyTold_78 : decode cX11_whyTold 78 = .ok (.iconst 1, 1) := by decide +kernel
theorem dX11_whyTold_79 : decode cX11_whyTold 79 = .ok (.ireturn, 1) := by decide +kernel
theorem dX11_does_0 : decode cX11_does 0 = .ok (.iload_n 1, 1) := by decide +kernel
theorem dX11_does_1 : decode cX11_does 1 = .ok (.iconst (-1), 1) := by decide +kernel
theorem dX11_does_2 : decode cX11_does 2 = .ok (.if_icmp .ne 10, 3) := by decide +kernel
theorem dX11_does_5 : decode cX11_does 5 = .ok (.aload_n 0, 1) := by decide +kernel
theorem dX11_does_6 : decode cX11_does 6 = .ok (.invokevirtual 401, 3) := by decide +kernel
theorem dX11_does_9 : decode cX11_does 9 = .ok (.goto 57, 3) := by decide +kernel
theorem dX11_does_12 : decode cX11_does 12 = .ok (.iload_n 1, 1) := by decide +kernel
theorem dX11_does_13 : decode cX11_does 13 = .ok (.sipush 1000, 3) := by decide +kernel
theorem dX11_does_16 : decode cX11_does 16 = .ok (.if_icmp .ge 26, 3) := by decide +kernel
theorem dX11_does_19 : decode cX11_does 19 = .ok (.aload_n 0, 1) := by decide +kernel
theorem dX11_does_20 : decode cX11_does 20 = .ok (.iload_n 1, 1) := by decide +kernel
theorem dX11_does_21 : decode cX11_does 21 = .ok (.bipush 100, 2) := by decide +kernel
