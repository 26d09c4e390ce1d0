theorem dX10_district_0 : decode cX10_district 0 = .ok (.iload_n 1, 1) := by decide +kernel
theorem dX10_district_1 : decode cX10_district 1 = .ok (.ifCond .lt 11, 3) := by decide +kernel
theorem dX10_district_101 : decode cX10_district 101 = .ok (.getfield 113, 3) := by decide +kernel
theorem dX10_district_104 : decode cX10_district 104 = .ok (.getfield 117, 3) := by decide +kernel
theorem dX10_district_107 : decode cX10_district 107 = .ok (.ireturn, 1) := by decide +kernel
theorem dX10_district_12 : decode cX10_district 12 = .ok (.new 83, 3) := by decide +kernel
theorem dX10_district_15 : decode cX10_district 15 = .ok (.dup, 1) := by decide +kernel
theorem dX10_district_16 : decode cX10_district 16 = .ok (.ldc 85, 2) := by decide +kernel
theorem dX10_district_18 : decode cX10_district 18 = .ok (.invokespecial 87, 3) := by decide +kernel
theorem dX10_district_21 : decode cX10_district 21 = .ok (.athrow, 1) := by decide +kernel
theorem dX10_district_22 : decode cX10_district 22 = .ok (.aload_n 0, 1) := by decide +kernel
theorem dX10_district_23 : decode cX10_district 23 = .ok (.getfield 50, 3) := by decide +kernel
theorem dX10_district_26 : decode cX10_district 26 = .ok (.aload_n 0, 1) := by decide +kernel
theorem dX10_district_27 : decode cX10_district 27 = .ok (.getfield 11, 3) := by decide +kernel
theorem dX10_district_30 : decode cX10_district 30 = .ok (.iload_n 1, 1) := by decide +kernel
theorem dX10_district_31 : decode cX10_district 31 = .ok (.invokevirtual 90, 3) := by decide +kernel
theorem dX10_district_34 : decode cX10_district 34 = .ok (.aload_n 0, 1) := by decide +kernel
theorem dX10_district_35 : decode cX10_district 35 = .ok (.iconst 0, 1) := by decide +kernel
theorem dX10_district_36 : decode cX10_district 36 = .ok (.putfield 76, 3) := by decide +kernel
theorem dX10_district_39 : decode cX10_district 39 = .ok (.aload_n 0, 1) := by decide +kernel
theorem dX10_district_4 : decode cX10_district 4 = .ok (.iload_n 1, 1) := by decide +kernel
theorem dX10_district_40 : decode cX10_district 40 = .ok (.aload_n 0, 1) := by decide +kernel
theorem dX10_district_41 : decode cX10_district 41 = .ok (.getfield 50, 3) := by decide +kernel
theorem dX10_district_44 : decode cX10_district 44 = .ok (.getfield 94, 3) := by decide +kernel
theorem dX10_district_47 : decode cX10_district 47 = .ok (.putfield 97, 3) := by decide +kernel
theorem dX10_district_5 : decode cX10_district 5 = .ok (.aload_n 0, 1) := by decide +kernel
theorem dX10_district_50 : decode cX10_district 50 = .ok (.aload_n 0, 1) := by decide +kernel
theorem dX10_district_51 : decode cX10_district 51 = .ok (.aload_n 0, 1) := by decide +kernel
theorem dX10_district_52 : decode cX10_district 52 = .ok (.getfield 50, 3) := by decide +kernel
theorem dX10_district_55 : decode cX10_district 55 = .ok (.getfield 100, 3) := by decide +kernel
theorem dX10_district_58 : decode cX10_district 58 = .ok (.putfield 15, 3) := by decide +kernel
theorem dX10_district_6 : decode cX10_district 6 = .ok (.getfield 76, 3) := by decide +kernel
theorem dX10_district_61 : decode cX10_district 61 = .ok (.aload_n 0, 1) := by decide +kernel
theorem dX10_district_62 : decode cX10_district 62 = .ok (.getfield 97, 3) := by decide +kernel
theorem dX10_district_65 : decode cX10_district 65 = .ok (.ifCond .eq 11, 3) := by decide +kernel
theorem dX10_district_68 : decode cX10_district 68 = .ok (.bipush (-10), 2) := by decide +kernel
theorem dX10_district_70 : decode cX10_district 70 = .ok (.aload_n 0, 1) := by decide +kernel
theorem dX10_district_71 : decode cX10_district 71 = .ok (.getfield 97, 3) := by decide +kernel
theorem dX10_district_74 : decode cX10_district 74 = .ok (.isub, 1) := by decide +kernel
theorem dX10_district_75 : decode cX10_district 75 = .ok (.ireturn, 1) := by decide +kernel
theorem dX10_district_76 : decode cX10_district 76 = .ok (.aload_n 0, 1) := by decide +kernel
theorem dX10_district_77 : decode cX10_district 77 = .ok (.getfield 57, 3) := by decide +kernel
theorem dX10_district_80 : decode cX10_district 80 = .ok (.aload_n 0, 1) := by decide +kernel
theorem dX10_district_81 : decode cX10_district 81 = .ok (.getfield 50, 3) := by decide +kernel
theorem dX10_district_84 : decode cX10_district 84 = .ok (.getfield 103, 3) := by decide +kernel
theorem dX10_district_87 : decode cX10_district 87 = .ok (.invokevirtual 106, 3) := by decide +kernel
theorem dX10_district_9 : decode cX10_district 9 = .ok (.if_icmp .le 13, 3) := by decide +kernel
theorem dX10_district_90 : decode cX10_district 90 = .ok (.aload_n 0, 1) := by decide +kernel
theorem dX10_district_91 : decode cX10_district 91 = .ok (.getfield 64, 3) := by decide +kernel
theorem dX10_district_94 : decode cX10_district 94 = .ok (.invokevirtual 110, 3) := by decide +kernel
theorem dX10_district_97 : decode cX10_district 97 = .ok (.aload_n 0, 1) := by decide +kernel
theorem dX10_district_98 : decode cX10_district 98 = .ok (.getfield 57, 3) := by decide +kernel
theorem dX10_image_0 : decode cX10_image 0 = .ok (.iload_n 1, 1) := by decide +kernel
theorem dX10_image_1 : decode cX10_image 1 = .ok (.invokestatic 388, 3) := by decide +kernel
theorem dX10_image_10 : decode cX10_image 10 = .ok (.ifnonnull 23, 3) := by decide +kernel
theorem dX10_image_13 : decode cX10_image 13 = .ok (.aload_n 0, 1) := by decide +kernel
theorem dX10_image_14 : decode cX10_image 14 = .ok (.getfield 38, 3) := by decide +kernel
theorem dX10_image_17 : decode cX10_image 17 = .ok (.iload_n 1, 1) := by decide +kernel
theorem dX10_image_18 : decode cX10_image 18 = .ok (.new 36, 3) := by decide +kernel
theorem dX10_image_21 : decode cX10_image 21 = .ok (.dup, 1) := by decide +kernel
theorem dX10_image_22 : decode cX10_image 22 = .ok (.aload_n 0, 1) := by decide +kernel
theorem dX10_image_23 : decode cX10_image 23 = .ok (.getfield 57, 3) := by decide +kernel
theorem dX10_image_26 : decode cX10_image 26 = .ok (.getfield 113, 3) := by decide +kernel
theorem dX10_image_29 : decode cX10_image 29 = .ok (.invokespecial 391, 3) := by decide +kernel
theorem dX10_image_32 : decode cX10_image 32 = .ok (.aastore, 1) := by decide +kernel
theorem dX10_image_33 : decode cX10_image 33 = .ok (.aload_n 0, 1) := by decide +kernel
theorem dX10_image_34 : decode cX10_image 34 = .ok (.getfield 38, 3) := by decide +kernel
theorem dX10_image_37 : decode cX10_image 37 = .ok (.iload_n 1, 1) := by decide +kernel
theorem dX10_image_38 : decode cX10_image 38 = .ok (.aaload, 1) := by decide +kernel
theorem dX10_image_39 : decode cX10_image 39 = .ok (.getfield 392, 3) := by decide +kernel
theorem dX10_image_4 : decode cX10_image 4 = .ok (.aload_n 0, 1) := by decide +kernel
theorem dX10_image_42 : decode cX10_image 42 = .ok (.aload_n 0, 1) := by decide +kernel
theorem dX10_image_43 : decode cX10_image 43 = .ok (.getfield 57, 3) := by decide +kernel
theorem dX10_image_46 : decode cX10_image 46 = .ok (.invokevirtual 106, 3) := by decide +kernel
theorem dX10_image_49 : decode cX10_image 49 = .ok (.aload_n 0, 1) := by decide +kernel
theorem dX10_image_5 : decode cX10_image 5 = .ok (.getfield 38, 3) := by decide +kernel
theorem dX10_image_50 : decode cX10_image 50 = .ok (.getfield 38, 3) := by decide +kernel
theorem dX10_image_53 : decode cX10_image 53 = .ok (.iload_n 1, 1) := by decide +kernel
theorem dX10_image_54 : decode cX10_image 54 = .ok (.aaload, 1) := by decide +kernel
theorem dX10_image_55 : decode cX10_image 55 = .ok (.getfield 393, 3) := by decide +kernel
theorem dX10_image_58 : decode cX10_image 58 = .ok (.aload_n 0, 1) := by decide +kernel
theorem dX10_image_59 : decode cX10_image 59 = .ok (.getfield 64, 3) := by decide +kernel
theorem dX10_image_62 : decode cX10_image 62 = .ok (.invokevirtual 394, 3) := by decide +kernel
theorem dX10_image_65 : decode cX10_image 65 = .ok (.return_, 1) := by decide +kernel
theorem dX10_image_8 : decode cX10_image 8 = .ok (.iload_n 1, 1) := by decide +kernel
theorem dX10_image_9 : decode cX10_image 9 = .ok (.aaload, 1) := by decide +kernel
theorem dX10_restore_0 : decode cX10_restore 0 = .ok (.iload_n 1, 1) := by decide +kernel
theorem dX10_restore_1 : decode cX10_restore 1 = .ok (.invokestatic 388, 3) := by decide +kernel
theorem dX10_restore_10 : decode cX10_restore 10 = .ok (.astore_n 2, 1) := by decide +kernel
theorem dX10_restore_11 : decode cX10_restore 11 = .ok (.aload_n 2, 1) := by decide +kernel
theorem dX10_restore_12 : decode cX10_restore 12 = .ok (.ifnonnull 14, 3) := by decide +kernel
theorem dX10_restore_15 : decode cX10_restore 15 = .ok (.new 307, 3) := by decide +kernel
theorem dX10_restore_18 : decode cX10_restore 18 = .ok (.dup, 1) := by decide +kernel
theorem dX10_restore_19 : decode cX10_restore 19 = .ok (.ldc_w 397, 3) := by decide +kernel
theorem dX10_restore_22 : decode cX10_restore 22 = .ok (.invokespecial 311, 3) := by decide +kernel
theorem dX10_restore_25 : decode cX10_restore 25 = .ok (.athrow, 1) := by decide +kernel
theorem dX10_restore_26 : decode cX10_restore 26 = .ok (.aload_n 0, 1) := by decide +kernel
theorem dX10_restore_27 : decode cX10_restore 27 = .ok (.getfield 57, 3) := by decide +kernel
theorem dX10_restore_30 : decode cX10_restore 30 = .ok (.aload_n 2, 1) := by decide +kernel
theorem dX10_restore_31 : decode cX10_restore 31 = .ok (.getfield 392, 3) := by decide +kernel
theorem dX10_restore_34 : decode cX10_restore 34 = .ok (.invokevirtual 106, 3) := by decide +kernel
theorem dX10_restore_37 : decode cX10_restore 37 = .ok (.aload_n 0, 1) := by decide +kernel
theorem dX10_restore_38 : decode cX10_restore 38 = .ok (.getfield 64, 3) := by decide +kernel
theorem dX10_restore_4 : decode cX10_restore 4 = .ok (.aload_n 0, 1) := by decide +kernel
theorem dX10_restore_41 : decode cX10_restore 41 = .ok (.aload_n 2, 1) := by decide +kernel
theorem dX10_restore_42 : decode cX10_restore 42 = .ok (.getfield 393, 3) := by decide +kernel
theorem dX10_restore_45 : decode cX10_restore 45 = .ok (.invokevirtual 394, 3) := by decide +kernel
theorem dX10_restore_48 : decode cX10_restore 48 = .ok (.return_, 1) := by decide +kernel
theorem dX10_restore_5 : decode cX10_restore 5 = .ok (.getfield 38, 3) := by decide +kernel
theorem dX10_restore_8 : decode cX10_restore 8 = .ok (.iload_n 1, 1) := by decide +kernel
theorem dX10_restore_9 : decode cX10_restore 9 = .ok (.aaload, 1) := by decide +kernel
theorem dX2_init_0 : decode cX2_init 0 = .ok (.aload_n 0, 1) := by decide +kernel
theorem dX2_init_1 : decode cX2_init 1 = .ok (.invokespecial 3, 3) := by decide +kernel
theorem dX2_init_10 : decode cX2_init 10 = .ok (.putfield 11, 3) := by decide +kernel
theorem dX2_init_13 : decode cX2_init 13 = .ok (.iconst 0, 1) := by decide +kernel
theorem dX2_init_14 : decode cX2_init 14 = .ok (.istore_n 2, 1) := by decide +kernel
theorem dX2_init_15 : decode cX2_init 15 = .ok (.iload_n 2, 1) := by decide +kernel
theorem dX2_init_16 : decode cX2_init 16 = .ok (.bipush 10, 2) := by decide +kernel
theorem dX2_init_18 : decode cX2_init 18 = .ok (.if_icmp .ge 23, 3) := by decide +kernel
theorem dX2_init_21 : decode cX2_init 21 = .ok (.aload_n 0, 1) := by decide +kernel
theorem dX2_init_22 : decode cX2_init 22 = .ok (.getfield 11, 3) := by decide +kernel
theorem dX2_init_25 : decode cX2_init 25 = .ok (.iload_n 2, 1) := by decide +kernel
theorem dX2_init_26 : decode cX2_init 26 = .ok (.new 9, 3) := by decide +kernel
theorem dX2_init_29 : decode cX2_init 29 = .ok (.dup, 1) := by decide +kernel
theorem dX2_init_30 : decode cX2_init 30 = .ok (.aload_n 1, 1) := by decide +kernel
theorem dX2_init_31 : decode cX2_init 31 = .ok (.invokespecial 17, 3) := by decide +kernel
theorem dX2_init_34 : decode cX2_init 34 = .ok (.aastore, 1) := by decide +kernel
theorem dX2_init_35 : decode cX2_init 35 = .ok (.iinc 2 1, 3) := by decide +kernel
theorem dX2_init_38 : decode cX2_init 38 = .ok (.goto (-23), 3) := by decide +kernel
theorem dX2_init_4 : decode cX2_init 4 = .ok (.aload_n 0, 1) := by decide +kernel
theorem dX2_init_41 : decode cX2_init 41 = .ok (.return_, 1) := by decide +kernel
theorem dX2_init_5 : decode cX2_init 5 = .ok (.bipush 10, 2) := by decide +kernel
theorem dX2_init_7 : decode cX2_init 7 = .ok (.anewarray 9, 3) := by decide +kernel
theorem dX3_init_0 : decode cX3_init 0 = .ok (.aload_n 0, 1) := by decide +kernel
theorem dX3_init_1 : decode cX3_init 1 = .ok (.invokespecial 1, 3) := by decide +kernel
theorem dX3_init_10 : decode cX3_init 10 = .ok (.invokespecial 9, 3) := by decide +kernel
theorem dX3_init_13 : decode cX3_init 13 = .ok (.putfield 12, 3) := by decide +kernel
theorem dX3_init_16 : decode cX3_init 16 = .ok (.aload_n 0, 1) := by decide +kernel
theorem dX3_init_17 : decode cX3_init 17 = .ok (.new 18, 3) := by decide +kernel
theorem dX3_init_20 : decode cX3_init 20 = .ok (.dup, 1) := by decide +kernel
theorem dX3_init_21 : decode cX3_init 21 = .ok (.aload_n 1, 1) := by decide +kernel
theorem dX3_init_22 : decode cX3_init 22 = .ok (.invokespecial 20, 3) := by decide +kernel
theorem dX3_init_25 : decode cX3_init 25 = .ok (.putfield 21, 3) := by decide +kernel
theorem dX3_init_28 : decode cX3_init 28 = .ok (.return_, 1) := by decide +kernel
theorem dX3_init_4 : decode cX3_init 4 = .ok (.aload_n 0, 1) := by decide +kernel
theorem dX3_init_5 : decode cX3_init 5 = .ok (.new 7, 3) := by decide +kernel
theorem dX3_init_8 : decode cX3_init 8 = .ok (.dup, 1) := by decide +kernel
theorem dX3_init_9 : decode cX3_init 9 = .ok (.aload_n 1, 1) := by decide +kernel
theorem dX5_read_0 : decode cX5_read 0 = .ok (.aload_n 0, 1) := by decide +kernel
theorem dX5_read_1 : decode cX5_read 1 = .ok (.new 35, 3) := by decide +kernel
theorem dX5_read_11 : decode cX5_read 11 = .ok (.aload_n 0, 1) := by decide +kernel
theorem dX5_read_112 : decode cX5_read 112 = .ok (.aload_n 0, 1) := by decide +kernel
theorem dX5_read_113 : decode cX5_read 113 = .ok (.invokevirtual 58, 3) := by decide +kernel
theorem dX5_read_116 : decode cX5_read 116 = .ok (.goto 61, 3) := by decide +kernel
theorem dX5_read_119 : decode cX5_read 119 = .ok (.aload_n 0, 1) := by decide +kernel
theorem dX5_read_12 : decode cX5_read 12 = .ok (.getfield 27, 3) := by decide +kernel
theorem dX5_read_120 : decode cX5_read 120 = .ok (.invokevirtual 61, 3) := by decide +kernel
theorem dX5_read_123 : decode cX5_read 123 = .ok (.goto 54, 3) := by decide +kernel
theorem dX5_read_126 : decode cX5_read 126 = .ok (.aload_n 0, 1) := by decide +kernel
theorem dX5_read_127 : decode cX5_read 127 = .ok (.invokevirtual 64, 3) := by decide +kernel
theorem dX5_read_130 : decode cX5_read 130 = .ok (.goto 47, 3) := by decide +kernel
theorem dX5_read_133 : decode cX5_read 133 = .ok (.aload_n 0, 1) := by decide +kernel
theorem dX5_read_134 : decode cX5_read 134 = .ok (.invokevirtual 67, 3) := by decide +kernel
theorem dX5_read_137 : decode cX5_read 137 = .ok (.goto 40, 3) := by decide +kernel
theorem dX5_read_140 : decode cX5_read 140 = .ok (.aload_n 0, 1) := by decide +kernel
theorem dX5_read_141 : decode cX5_read 141 = .ok (.getfield 12, 3) := by decide +kernel
theorem dX5_read_144 : decode cX5_read 144 = .ok (.invokevirtual 70, 3) := by decide +kernel
theorem dX5_read_147 : decode cX5_read 147 = .ok (.aload_n 0, 1) := by decide +kernel
theorem dX5_read_148 : decode cX5_read 148 = .ok (.getfield 27, 3) := by decide +kernel
theorem dX5_read_15 : decode cX5_read 15 = .ok (.aload_n 0, 1) := by decide +kernel
theorem dX5_read_151 : decode cX5_read 151 = .ok (.aload_n 0, 1) := by decide +kernel
theorem dX5_read_152 : decode cX5_read 152 = .ok (.iconst 0, 1) := by decide +kernel
theorem dX5_read_153 : decode cX5_read 153 = .ok (.sipush 999, 3) := by decide +kernel
theorem dX5_read_156 : decode cX5_read 156 = .ok (.invokevirtual 73, 3) := by decide +kernel
theorem dX5_read_159 : decode cX5_read 159 = .ok (.putfield 77, 3) := by decide +kernel
theorem dX5_read_16 : decode cX5_read 16 = .ok (.getfield 31, 3) := by decide +kernel
theorem dX5_read_162 : decode cX5_read 162 = .ok (.aload_n 0, 1) := by decide +kernel
theorem dX5_read_163 : decode cX5_read 163 = .ok (.getfield 12, 3) := by decide +kernel
theorem dX5_read_166 : decode cX5_read 166 = .ok (.invokevirtual 70, 3) := by decide +kernel
theorem dX5_read_169 : decode cX5_read 169 = .ok (.goto 8, 3) := by decide +kernel
theorem dX5_read_172 : decode cX5_read 172 = .ok (.aload_n 0, 1) := by decide +kernel
theorem dX5_read_173 : decode cX5_read 173 = .ok (.iconst 2, 1) := by decide +kernel
theorem dX5_read_174 : decode cX5_read 174 = .ok (.invokevirtual 80, 3) := by decide +kernel
theorem dX5_read_177 : decode cX5_read 177 = .ok (.aload_n 0, 1) := by decide +kernel
theorem dX5_read_178 : decode cX5_read 178 = .ok (.invokevirtual 84, 3) := by decide +kernel
theorem dX5_read_181 : decode cX5_read 181 = .ok (.iinc 3 1, 3) := by decide +kernel
theorem dX5_read_184 : decode cX5_read 184 = .ok (.goto (-137), 3) := by decide +kernel
theorem dX5_read_187 : decode cX5_read 187 = .ok (.aload_n 0, 1) := by decide +kernel
theorem dX5_read_188 : decode cX5_read 188 = .ok (.invokevirtual 87, 3) := by decide +kernel
theorem dX5_read_19 : decode cX5_read 19 = .ok (.invokevirtual 38, 3) := by decide +kernel
theorem dX5_read_191 : decode cX5_read 191 = .ok (.return_, 1) := by decide +kernel
theorem dX5_read_22 : decode cX5_read 22 = .ok (.aload_n 0, 1) := by decide +kernel
theorem dX5_read_23 : decode cX5_read 23 = .ok (.iconst 0, 1) := by decide +kernel
theorem dX5_read_24 : decode cX5_read 24 = .ok (.putfield 41, 3) := by decide +kernel
theorem dX5_read_27 : decode cX5_read 27 = .ok (.aload_n 0, 1) := by decide +kernel
theorem dX5_read_28 : decode cX5_read 28 = .ok (.iconst (-1), 1) := by decide +kernel
theorem dX5_read_29 : decode cX5_read 29 = .ok (.putfield 45, 3) := by decide +kernel
theorem dX5_read_32 : decode cX5_read 32 = .ok (.aload_n 0, 1) := by decide +kernel
theorem dX5_read_33 : decode cX5_read 33 = .ok (.getfield 12, 3) := by decide +kernel
theorem dX5_read_36 : decode cX5_read 36 = .ok (.aload_n 1, 1) := by decide +kernel
theorem dX5_read_37 : decode cX5_read 37 = .ok (.iload_n 2, 1) := by decide +kernel
theorem dX5_read_38 : decode cX5_read 38 = .ok (.invokevirtual 48, 3) := by decide +kernel
theorem dX5_read_4 : decode cX5_read 4 = .ok (.dup, 1) := by decide +kernel
theorem dX5_read_41 : decode cX5_read 41 = .ok (.aload_n 0, 1) := by decide +kernel
theorem dX5_read_42 : decode cX5_read 42 = .ok (.invokevirtual 52, 3) := by decide +kernel
theorem dX5_read_45 : decode cX5_read 45 = .ok (.iconst 0, 1) := by decide +kernel
theorem dX5_read_46 : decode cX5_read 46 = .ok (.istore_n 3, 1) := by decide +kernel
theorem dX5_read_47 : decode cX5_read 47 = .ok (.iload_n 3, 1) := by decide +kernel
theorem dX5_read_48 : decode cX5_read 48 = .ok (.sipush 900, 3) := by decide +kernel
theorem dX5_read_5 : decode cX5_read 5 = .ok (.invokespecial 37, 3) := by decide +kernel
theorem dX5_read_51 : decode cX5_read 51 = .ok (.if_icmp .ge 136, 3) := by decide +kernel
theorem dX5_read_54 : decode cX5_read 54 = .ok (.aload_n 0, 1) := by decide +kernel
theorem dX5_read_55 : decode cX5_read 55 = .ok (.getfield 41, 3) := by decide +kernel
theorem dX5_read_58 : decode cX5_read 58 = .ok (.ifCond .ne 129, 3) := by decide +kernel
theorem dX5_read_61 : decode cX5_read 61 = .ok (.aload_n 0, 1) := by decide +kernel
theorem dX5_read_62 : decode cX5_read 62 = .ok (.getfield 12, 3) := by decide +kernel
theorem dX5_read_65 : decode cX5_read 65 = .ok (.getfield 55, 3) := by decide +kernel
theorem dX5_read_68 : decode cX5_read 68 = .ok (.ifCond .eq 119, 3) := by decide +kernel
theorem dX5_read_71 : decode cX5_read 71 = .ok (.aload_n 0, 1) := by decide +kernel
theorem dX5_read_72 : decode cX5_read 72 = .ok (.getfield 12, 3) := by decide +kernel
theorem dX5_read_75 : decode cX5_read 75 = .ok (.getfield 55, 3) := by decide +kernel
theorem dX5_read_78 : decode cX5_read 78 = .ok (.tableswitch 94 201 205 #[34, 41, 48, 55, 62], 34) := by decide +kernel
theorem dX5_read_8 : decode cX5_read 8 = .ok (.putfield 31, 3) := by decide +kernel
theorem dX6_init_0 : decode cX6_init 0 = .ok (.aload_n 0, 1) := by decide +kernel
theorem dX6_init_1 : decode cX6_init 1 = .ok (.invokespecial 3, 3) := by decide +kernel
theorem dX6_init_12 : decode cX6_init 12 = .ok (.aload_n 0, 1) := by decide +kernel
theorem dX6_init_13 : decode cX6_init 13 = .ok (.bipush 8, 2) := by decide +kernel
theorem dX6_init_15 : decode cX6_init 15 = .ok (.newarray .int, 2) := by decide +kernel
theorem dX6_init_17 : decode cX6_init 17 = .ok (.putfield 15, 3) := by decide +kernel
theorem dX6_init_20 : decode cX6_init 20 = .ok (.aload_n 0, 1) := by decide +kernel
theorem dX6_init_21 : decode cX6_init 21 = .ok (.bipush 8, 2) := by decide +kernel
theorem dX6_init_23 : decode cX6_init 23 = .ok (.newarray .int, 2) := by decide +kernel
theorem dX6_init_25 : decode cX6_init 25 = .ok (.putfield 18, 3) := by decide +kernel
theorem dX6_init_28 : decode cX6_init 28 = .ok (.aload_n 0, 1) := by decide +kernel
theorem dX6_init_29 : decode cX6_init 29 = .ok (.bipush 8, 2) := by decide +kernel
theorem dX6_init_31 : decode cX6_init 31 = .ok (.newarray .int, 2) := by decide +kernel
theorem dX6_init_33 : decode cX6_init 33 = .ok (.putfield 21, 3) := by decide +kernel
theorem dX6_init_36 : decode cX6_init 36 = .ok (.aload_n 0, 1) := by decide +kernel
theorem dX6_init_37 : decode cX6_init 37 = .ok (.iconst 4, 1) := by decide +kernel
theorem dX6_init_38 : decode cX6_init 38 = .ok (.newarray .int, 2) := by decide +kernel
theorem dX6_init_4 : decode cX6_init 4 = .ok (.aload_n 0, 1) := by decide +kernel
theorem dX6_init_40 : decode cX6_init 40 = .ok (.putfield 24, 3) := by decide +kernel
theorem dX6_init_43 : decode cX6_init 43 = .ok (.aload_n 0, 1) := by decide +kernel
theorem dX6_init_44 : decode cX6_init 44 = .ok (.aload_n 1, 1) := by decide +kernel
theorem dX6_init_45 : decode cX6_init 45 = .ok (.putfield 27, 3) := by decide +kernel
theorem dX6_init_48 : decode cX6_init 48 = .ok (.return_, 1) := by decide +kernel
theorem dX6_init_5 : decode cX6_init 5 = .ok (.bipush 8, 2) := by decide +kernel
theorem dX6_init_7 : decode cX6_init 7 = .ok (.newarray .int, 2) := by decide +kernel
theorem dX6_init_9 : decode cX6_init 9 = .ok (.putfield 9, 3) := by decide +kernel
