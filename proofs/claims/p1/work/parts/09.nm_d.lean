theorem dX11_letGoBy_10 : decode cX11_letGoBy 10 = .ok (.iconst 0, 1) := by decide +kernel
theorem dX11_letGoBy_11 : decode cX11_letGoBy 11 = .ok (.goto 11, 3) := by decide +kernel
theorem dX11_letGoBy_14 : decode cX11_letGoBy 14 = .ok (.aload_n 0, 1) := by decide +kernel
theorem dX11_letGoBy_15 : decode cX11_letGoBy 15 = .ok (.iload_n 1, 1) := by decide +kernel
theorem dX11_letGoBy_16 : decode cX11_letGoBy 16 = .ok (.iload_n 2, 1) := by decide +kernel
theorem dX11_letGoBy_17 : decode cX11_letGoBy 17 = .ok (.iload_n 3, 1) := by decide +kernel
theorem dX11_letGoBy_18 : decode cX11_letGoBy 18 = .ok (.iconst (-1), 1) := by decide +kernel
theorem dX11_letGoBy_19 : decode cX11_letGoBy 19 = .ok (.invokevirtual 524, 3) := by decide +kernel
theorem dX11_letGoBy_22 : decode cX11_letGoBy 22 = .ok (.ireturn, 1) := by decide +kernel
theorem dX11_letGoAt_0 : decode cX11_letGoAt 0 = .ok (.aload_n 0, 1) := by decide +kernel
theorem dX11_letGoAt_1 : decode cX11_letGoAt 1 = .ok (.iload_n 1, 1) := by decide +kernel
theorem dX11_letGoAt_2 : decode cX11_letGoAt 2 = .ok (.iload_n 2, 1) := by decide +kernel
theorem dX11_letGoAt_3 : decode cX11_letGoAt 3 = .ok (.iload_n 3, 1) := by decide +kernel
theorem dX11_letGoAt_4 : decode cX11_letGoAt 4 = .ok (.invokevirtual 521, 3) := by decide +kernel
theorem dX11_letGoAt_7 : decode cX11_letGoAt 7 = .ok (.ifCond .ne 13, 3) := by decide +kernel
theorem dX11_letGoAt_10 : decode cX11_letGoAt 10 = .ok (.iload 4, 2) := by decide +kernel
theorem dX11_letGoAt_12 : decode cX11_letGoAt 12 = .ok (.ifCond .ge 8, 3) := by decide +kernel
theorem dX11_letGoAt_15 : decode cX11_letGoAt 15 = .ok (.aload_n 0, 1) := by decide +kernel
theorem dX11_letGoAt_16 : decode cX11_letGoAt 16 = .ok (.iconst 2, 1) := by decide +kernel
theorem dX11_letGoAt_17 : decode cX11_letGoAt 17 = .ok (.putfield 70, 3) := by decide +kernel
theorem dX11_letGoAt_20 : decode cX11_letGoAt 20 = .ok (.aload_n 0, 1) := by decide +kernel
theorem dX11_letGoAt_21 : decode cX11_letGoAt 21 = .ok (.getfield 70, 3) := by decide +kernel
theorem dX11_letGoAt_24 : decode cX11_letGoAt 24 = .ok (.ifCond .le 5, 3) := by decide +kernel
theorem dX11_letGoAt_27 : decode cX11_letGoAt 27 = .ok (.iconst 0, 1) := by decide +kernel
theorem dX11_letGoAt_28 : decode cX11_letGoAt 28 = .ok (.ireturn, 1) := by decide +kernel
theorem dX11_letGoAt_29 : decode cX11_letGoAt 29 = .ok (.aload_n 0, 1) := by decide +kernel
theorem dX11_letGoAt_30 : decode cX11_letGoAt 30 = .ok (.iload_n 1, 1) := by decide +kernel
theorem dX11_letGoAt_31 : decode cX11_letGoAt 31 = .ok (.iload_n 2, 1) := by decide +kernel
theorem dX11_letGoAt_32 : decode cX11_letGoAt 32 = .ok (.iload_n 3, 1) := by decide +kernel
theorem dX11_letGoAt_33 : decode cX11_letGoAt 33 = .ok (.iload 4, 2) := by decide +kernel
theorem dX11_letGoAt_35 : decode cX11_letGoAt 35 = .ok (.invokevirtual 524, 3) := by decide +kernel
theorem dX11_letGoAt_38 : decode cX11_letGoAt 38 = .ok (.pop, 1) := by decide +kernel
theorem dX11_letGoAt_39 : decode cX11_letGoAt 39 = .ok (.aload_n 0, 1) := by decide +kernel
theorem dX11_letGoAt_40 : decode cX11_letGoAt 40 = .ok (.getfield 514, 3) := by decide +kernel
theorem dX11_letGoAt_43 : decode cX11_letGoAt 43 = .ok (.ireturn, 1) := by decide +kernel
theorem dX11_levels_0 : decode cX11_levels 0 = .ok (.aload_n 0, 1) := by decide +kernel
theorem dX11_levels_1 : decode cX11_levels 1 = .ok (.aload_n 0, 1) := by decide +kernel
theorem dX11_levels_2 : decode cX11_levels 2 = .ok (.iload_n 1, 1) := by decide +kernel
theorem dX11_levels_3 : decode cX11_levels 3 = .ok (.i2l, 1) := by decide +kernel
theorem dX11_levels_4 : decode cX11_levels 4 = .ok (.invokevirtual 286, 3) := by decide +kernel
theorem dX11_levels_7 : decode cX11_levels 7 = .ok (.ifCond .ne 7, 3) := by decide +kernel
theorem dX11_levels_10 : decode cX11_levels 10 = .ok (.iconst 1, 1) := by decide +kernel
theorem dX11_levels_11 : decode cX11_levels 11 = .ok (.goto 55, 3) := by decide +kernel
theorem dX11_levels_14 : decode cX11_levels 14 = .ok (.iload_n 2, 1) := by decide +kernel
theorem dX11_levels_15 : decode cX11_levels 15 = .ok (.i2l, 1) := by decide +kernel
theorem dX11_levels_16 : decode cX11_levels 16 = .ok (.lconst 1, 1) := by decide +kernel
theorem dX11_levels_17 : decode cX11_levels 17 = .ok (.ldc2_w 399, 3) := by decide +kernel
theorem dX11_levels_20 : decode cX11_levels 20 = .ok (.invokestatic 131, 3) := by decide +kernel
theorem dX11_levels_23 : decode cX11_levels 23 = .ok (.ifCond .eq 42, 3) := by decide +kernel
theorem dX11_levels_26 : decode cX11_levels 26 = .ok (.iload_n 3, 1) := by decide +kernel
theorem dX11_levels_27 : decode cX11_levels 27 = .ok (.i2l, 1) := by decide +kernel
theorem dX11_levels_28 : decode cX11_levels 28 = .ok (.lconst 0, 1) := by decide +kernel
theorem dX11_levels_29 : decode cX11_levels 29 = .ok (.bipush 60, 2) := by decide +kernel
theorem dX11_levels_31 : decode cX11_levels 31 = .ok (.aload_n 0, 1) := by decide +kernel
theorem dX11_levels_32 : decode cX11_levels 32 = .ok (.getfield 9, 3) := by decide +kernel
theorem dX11_levels_35 : decode cX11_levels 35 = .ok (.bipush 40, 2) := by decide +kernel
theorem dX11_levels_37 : decode cX11_levels 37 = .ok (.iaload, 1) := by decide +kernel
theorem dX11_levels_38 : decode cX11_levels 38 = .ok (.invokestatic 316, 3) := by decide +kernel
theorem dX11_levels_41 : decode cX11_levels 41 = .ok (.i2l, 1) := by decide +kernel
theorem dX11_levels_42 : decode cX11_levels 42 = .ok (.invokestatic 131, 3) := by decide +kernel
theorem dX11_levels_45 : decode cX11_levels 45 = .ok (.ifCond .eq 20, 3) := by decide +kernel
theorem dX11_levels_48 : decode cX11_levels 48 = .ok (.iload 4, 2) := by decide +kernel
theorem dX11_levels_50 : decode cX11_levels 50 = .ok (.i2l, 1) := by decide +kernel
theorem dX11_levels_51 : decode cX11_levels 51 = .ok (.lconst 0, 1) := by decide +kernel
theorem dX11_levels_52 : decode cX11_levels 52 = .ok (.ldc2_w 477, 3) := by decide +kernel
theorem dX11_levels_55 : decode cX11_levels 55 = .ok (.invokestatic 131, 3) := by decide +kernel
theorem dX11_levels_58 : decode cX11_levels 58 = .ok (.ifCond .eq 7, 3) := by decide +kernel
theorem dX11_levels_61 : decode cX11_levels 61 = .ok (.iconst 0, 1) := by decide +kernel
theorem dX11_levels_62 : decode cX11_levels 62 = .ok (.goto 4, 3) := by decide +kernel
theorem dX11_levels_65 : decode cX11_levels 65 = .ok (.iconst 2, 1) := by decide +kernel
theorem dX11_levels_66 : decode cX11_levels 66 = .ok (.putfield 70, 3) := by decide +kernel
theorem dX11_levels_69 : decode cX11_levels 69 = .ok (.aload_n 0, 1) := by decide +kernel
theorem dX11_levels_70 : decode cX11_levels 70 = .ok (.getfield 70, 3) := by decide +kernel
theorem dX11_levels_73 : decode cX11_levels 73 = .ok (.ifCond .le 5, 3) := by decide +kernel
theorem dX11_levels_76 : decode cX11_levels 76 = .ok (.iconst 0, 1) := by decide +kernel
theorem dX11_levels_77 : decode cX11_levels 77 = .ok (.ireturn, 1) := by decide +kernel
theorem dX11_levels_78 : decode cX11_levels 78 = .ok (.iconst 0, 1) := by decide +kernel
theorem dX11_levels_79 : decode cX11_levels 79 = .ok (.istore 5, 2) := by decide +kernel
theorem dX11_levels_81 : decode cX11_levels 81 = .ok (.iconst 0, 1) := by decide +kernel
theorem dX11_levels_82 : decode cX11_levels 82 = .ok (.istore 6, 2) := by decide +kernel
theorem dX11_levels_84 : decode cX11_levels 84 = .ok (.iload 6, 2) := by decide +kernel
theorem dX11_levels_86 : decode cX11_levels 86 = .ok (.aload_n 0, 1) := by decide +kernel
theorem dX11_levels_87 : decode cX11_levels 87 = .ok (.getfield 9, 3) := by decide +kernel
theorem dX11_levels_90 : decode cX11_levels 90 = .ok (.iconst 2, 1) := by decide +kernel
theorem dX11_levels_91 : decode cX11_levels 91 = .ok (.iaload, 1) := by decide +kernel
theorem dX11_levels_92 : decode cX11_levels 92 = .ok (.if_icmp .ge 36, 3) := by decide +kernel
theorem dX11_levels_95 : decode cX11_levels 95 = .ok (.iload 5, 2) := by decide +kernel
theorem dX11_levels_97 : decode cX11_levels 97 = .ok (.aload_n 0, 1) := by decide +kernel
theorem dX11_levels_98 : decode cX11_levels 98 = .ok (.iload_n 1, 1) := by decide +kernel
theorem dX11_levels_99 : decode cX11_levels 99 = .ok (.iload 6, 2) := by decide +kernel
theorem dX11_levels_101 : decode cX11_levels 101 = .ok (.iload_n 2, 1) := by decide +kernel
theorem dX11_levels_102 : decode cX11_levels 102 = .ok (.iload_n 3, 1) := by decide +kernel
theorem dX11_levels_103 : decode cX11_levels 103 = .ok (.iload 4, 2) := by decide +kernel
theorem dX11_levels_105 : decode cX11_levels 105 = .ok (.invokevirtual 517, 3) := by decide +kernel
theorem dX11_levels_108 : decode cX11_levels 108 = .ok (.ifCond .eq 10, 3) := by decide +kernel
theorem dX11_levels_111 : decode cX11_levels 111 = .ok (.iconst 1, 1) := by decide +kernel
theorem dX11_levels_112 : decode cX11_levels 112 = .ok (.iload 6, 2) := by decide +kernel
theorem dX11_levels_114 : decode cX11_levels 114 = .ok (.ishl, 1) := by decide +kernel
theorem dX11_levels_115 : decode cX11_levels 115 = .ok (.goto 4, 3) := by decide +kernel
theorem dX11_levels_118 : decode cX11_levels 118 = .ok (.iconst 0, 1) := by decide +kernel
theorem dX11_levels_119 : decode cX11_levels 119 = .ok (.ior, 1) := by decide +kernel
theorem dX11_levels_120 : decode cX11_levels 120 = .ok (.istore 5, 2) := by decide +kernel
theorem dX11_levels_122 : decode cX11_levels 122 = .ok (.iinc 6 1, 3) := by decide +kernel
theorem dX11_levels_125 : decode cX11_levels 125 = .ok (.goto (-41), 3) := by decide +kernel
theorem dX11_levels_128 : decode cX11_levels 128 = .ok (.iload 5, 2) := by decide +kernel
theorem dX11_levels_130 : decode cX11_levels 130 = .ok (.ireturn, 1) := by decide +kernel
theorem dX11_isTray_0 : decode cX11_isTray 0 = .ok (.iload_n 0, 1) := by decide +kernel
theorem dX11_isTray_1 : decode cX11_isTray 1 = .ok (.i2l, 1) := by decide +kernel
theorem dX11_isTray_2 : decode cX11_isTray 2 = .ok (.lconst 0, 1) := by decide +kernel
theorem dX11_isTray_3 : decode cX11_isTray 3 = .ok (.ldc2_w 423, 3) := by decide +kernel
theorem dX11_isTray_6 : decode cX11_isTray 6 = .ok (.invokestatic 131, 3) := by decide +kernel
theorem dX11_isTray_9 : decode cX11_isTray 9 = .ok (.ireturn, 1) := by decide +kernel
theorem dX11_tray_0 : decode cX11_tray 0 = .ok (.aload_n 0, 1) := by decide +kernel
theorem dX11_tray_1 : decode cX11_tray 1 = .ok (.iload_n 1, 1) := by decide +kernel
theorem dX11_tray_2 : decode cX11_tray 2 = .ok (.invokestatic 405, 3) := by decide +kernel
theorem dX11_tray_5 : decode cX11_tray 5 = .ok (.ifCond .ne 7, 3) := by decide +kernel
theorem dX11_tray_8 : decode cX11_tray 8 = .ok (.iconst 1, 1) := by decide +kernel
theorem dX11_tray_9 : decode cX11_tray 9 = .ok (.goto 32, 3) := by decide +kernel
theorem dX11_tray_12 : decode cX11_tray 12 = .ok (.iload_n 2, 1) := by decide +kernel
theorem dX11_tray_13 : decode cX11_tray 13 = .ok (.i2l, 1) := by decide +kernel
theorem dX11_tray_14 : decode cX11_tray 14 = .ok (.lconst 0, 1) := by decide +kernel
theorem dX11_tray_15 : decode cX11_tray 15 = .ok (.ldc2_w 423, 3) := by decide +kernel
theorem dX11_tray_18 : decode cX11_tray 18 = .ok (.invokestatic 131, 3) := by decide +kernel
theorem dX11_tray_21 : decode cX11_tray 21 = .ok (.ifCond .eq 15, 3) := by decide +kernel
theorem dX11_tray_24 : decode cX11_tray 24 = .ok (.iload_n 3, 1) := by decide +kernel
theorem dX11_tray_25 : decode cX11_tray 25 = .ok (.i2l, 1) := by decide +kernel
theorem dX11_tray_26 : decode cX11_tray 26 = .ok (.lconst 0, 1) := by decide +kernel
theorem dX11_tray_27 : decode cX11_tray 27 = .ok (.ldc2_w 447, 3) := by decide +kernel
theorem dX11_tray_30 : decode cX11_tray 30 = .ok (.invokestatic 131, 3) := by decide +kernel
theorem dX11_tray_33 : decode cX11_tray 33 = .ok (.ifCond .ne 7, 3) := by decide +kernel
theorem dX11_tray_36 : decode cX11_tray 36 = .ok (.iconst 2, 1) := by decide +kernel
theorem dX11_tray_37 : decode cX11_tray 37 = .ok (.goto 4, 3) := by decide +kernel
theorem dX11_tray_40 : decode cX11_tray 40 = .ok (.iconst 0, 1) := by decide +kernel
theorem dX11_tray_41 : decode cX11_tray 41 = .ok (.putfield 70, 3) := by decide +kernel
theorem dX11_tray_44 : decode cX11_tray 44 = .ok (.aload_n 0, 1) := by decide +kernel
theorem dX11_tray_45 : decode cX11_tray 45 = .ok (.getfield 70, 3) := by decide +kernel
theorem dX11_tray_48 : decode cX11_tray 48 = .ok (.ifCond .le 4, 3) := by decide +kernel
theorem dX11_tray_51 : decode cX11_tray 51 = .ok (.return_, 1) := by decide +kernel
theorem dX11_tray_52 : decode cX11_tray 52 = .ok (.aload_n 0, 1) := by decide +kernel
theorem dX11_tray_53 : decode cX11_tray 53 = .ok (.getfield 61, 3) := by decide +kernel
theorem dX11_tray_56 : decode cX11_tray 56 = .ok (.iload_n 1, 1) := by decide +kernel
theorem dX11_tray_57 : decode cX11_tray 57 = .ok (.iload_n 2, 1) := by decide +kernel
theorem dX11_tray_58 : decode cX11_tray 58 = .ok (.iastore, 1) := by decide +kernel
theorem dX11_tray_59 : decode cX11_tray 59 = .ok (.aload_n 0, 1) := by decide +kernel
theorem dX11_tray_60 : decode cX11_tray 60 = .ok (.getfield 64, 3) := by decide +kernel
theorem dX11_tray_63 : decode cX11_tray 63 = .ok (.iload_n 1, 1) := by decide +kernel
theorem dX11_tray_64 : decode cX11_tray 64 = .ok (.iload_n 3, 1) := by decide +kernel
theorem dX11_tray_65 : decode cX11_tray 65 = .ok (.iastore, 1) := by decide +kernel
theorem dX11_tray_66 : decode cX11_tray 66 = .ok (.iconst 0, 1) := by decide +kernel
theorem dX11_tray_67 : decode cX11_tray 67 = .ok (.istore 4, 2) := by decide +kernel
theorem dX11_tray_69 : decode cX11_tray 69 = .ok (.iload 4, 2) := by decide +kernel
theorem dX11_tray_71 : decode cX11_tray 71 = .ok (.bipush 30, 2) := by decide +kernel
theorem dX11_tray_73 : decode cX11_tray 73 = .ok (.if_icmp .ge 22, 3) := by decide +kernel
theorem dX11_tray_76 : decode cX11_tray 76 = .ok (.aload_n 0, 1) := by decide +kernel
theorem dX11_tray_77 : decode cX11_tray 77 = .ok (.getfield 67, 3) := by decide +kernel
theorem dX11_tray_80 : decode cX11_tray 80 = .ok (.bipush 30, 2) := by decide +kernel
theorem dX11_tray_82 : decode cX11_tray 82 = .ok (.iload_n 1, 1) := by decide +kernel
theorem dX11_tray_83 : decode cX11_tray 83 = .ok (.imul, 1) := by decide +kernel
theorem dX11_tray_84 : decode cX11_tray 84 = .ok (.iload 4, 2) := by decide +kernel
theorem dX11_tray_86 : decode cX11_tray 86 = .ok (.iadd, 1) := by decide +kernel
theorem dX11_tray_87 : decode cX11_tray 87 = .ok (.lconst 0, 1) := by decide +kernel
theorem dX11_tray_88 : decode cX11_tray 88 = .ok (.lastore, 1) := by decide +kernel
theorem dX11_tray_89 : decode cX11_tray 89 = .ok (.iinc 4 1, 3) := by decide +kernel
theorem dX11_tray_92 : decode cX11_tray 92 = .ok (.goto (-23), 3) := by decide +kernel
theorem dX11_tray_95 : decode cX11_tray 95 = .ok (.return_, 1) := by decide +kernel
theorem dX11_write_0 : decode cX11_write 0 = .ok (.aload_n 0, 1) := by decide +kernel
theorem dX11_write_1 : decode cX11_write 1 = .ok (.aload_n 0, 1) := by decide +kernel
theorem dX11_write_2 : decode cX11_write 2 = .ok (.iload_n 1, 1) := by decide +kernel
theorem dX11_write_3 : decode cX11_write 3 = .ok (.invokevirtual 420, 3) := by decide +kernel
theorem dX11_write_6 : decode cX11_write 6 = .ok (.putfield 70, 3) := by decide +kernel
theorem dX11_write_9 : decode cX11_write 9 = .ok (.aload_n 0, 1) := by decide +kernel
theorem dX11_write_10 : decode cX11_write 10 = .ok (.getfield 70, 3) := by decide +kernel
theorem dX11_write_13 : decode cX11_write 13 = .ok (.ifCond .le 5, 3) := by decide +kernel
theorem dX11_write_16 : decode cX11_write 16 = .ok (.lconst 0, 1) := by decide +kernel
theorem dX11_write_17 : decode cX11_write 17 = .ok (.lreturn, 1) := by decide +kernel
theorem dX11_copy_0 : decode cX11_copy 0 = .ok (.aload_n 0, 1) := by decide +kernel
theorem dX11_copy_1 : decode cX11_copy 1 = .ok (.aload_n 0, 1) := by decide +kernel
theorem dX11_copy_2 : decode cX11_copy 2 = .ok (.iload_n 1, 1) := by decide +kernel
theorem dX11_copy_3 : decode cX11_copy 3 = .ok (.invokevirtual 420, 3) := by decide +kernel
theorem dX11_copy_6 : decode cX11_copy 6 = .ok (.putfield 70, 3) := by decide +kernel
theorem dX11_copy_9 : decode cX11_copy 9 = .ok (.aload_n 0, 1) := by decide +kernel
theorem dX11_copy_10 : decode cX11_copy 10 = .ok (.getfield 70, 3) := by decide +kernel
theorem dX11_copy_13 : decode cX11_copy 13 = .ok (.ifCond .le 5, 3) := by decide +kernel
theorem dX11_copy_16 : decode cX11_copy 16 = .ok (.iconst 0, 1) := by decide +kernel
theorem dX11_copy_17 : decode cX11_copy 17 = .ok (.ireturn, 1) := by decide +kernel
theorem dX11_image_0 : decode cX11_image 0 = .ok (.aload_n 0, 1) := by decide +kernel
theorem dX11_image_1 : decode cX11_image 1 = .ok (.iload_n 1, 1) := by decide +kernel
theorem dX11_image_2 : decode cX11_image 2 = .ok (.i2l, 1) := by decide +kernel
theorem dX11_image_3 : decode cX11_image 3 = .ok (.lconst 0, 1) := by decide +kernel
theorem dX11_image_4 : decode cX11_image 4 = .ok (.ldc2_w 371, 3) := by decide +kernel
theorem dX11_image_7 : decode cX11_image 7 = .ok (.invokestatic 131, 3) := by decide +kernel
theorem dX11_image_10 : decode cX11_image 10 = .ok (.ifCond .eq 7, 3) := by decide +kernel
theorem dX11_image_13 : decode cX11_image 13 = .ok (.iconst 0, 1) := by decide +kernel
theorem dX11_image_14 : decode cX11_image 14 = .ok (.goto 4, 3) := by decide +kernel
theorem dX11_image_17 : decode cX11_image 17 = .ok (.iconst 1, 1) := by decide +kernel
theorem dX11_image_18 : decode cX11_image 18 = .ok (.putfield 70, 3) := by decide +kernel
theorem dX11_image_21 : decode cX11_image 21 = .ok (.aload_n 0, 1) := by decide +kernel
theorem dX11_image_22 : decode cX11_image 22 = .ok (.getfield 70, 3) := by decide +kernel
theorem dX11_image_25 : decode cX11_image 25 = .ok (.ifCond .le 4, 3) := by decide +kernel
theorem dX11_image_28 : decode cX11_image 28 = .ok (.return_, 1) := by decide +kernel
theorem dX11_image_29 : decode cX11_image 29 = .ok (.aload_n 0, 1) := by decide +kernel
theorem dX11_image_30 : decode cX11_image 30 = .ok (.getfield 19, 3) := by decide +kernel
theorem dX11_image_33 : decode cX11_image 33 = .ok (.iload_n 1, 1) := by decide +kernel
theorem dX11_image_34 : decode cX11_image 34 = .ok (.iconst 1, 1) := by decide +kernel
theorem dX11_image_35 : decode cX11_image 35 = .ok (.bastore, 1) := by decide +kernel
theorem dX11_image_36 : decode cX11_image 36 = .ok (.iconst 0, 1) := by decide +kernel
theorem dX11_image_37 : decode cX11_image 37 = .ok (.istore_n 2, 1) := by decide +kernel
theorem dX11_image_38 : decode cX11_image 38 = .ok (.iload_n 2, 1) := by decide +kernel
theorem dX11_image_39 : decode cX11_image 39 = .ok (.sipush 2260, 3) := by decide +kernel
theorem dX11_image_42 : decode cX11_image 42 = .ok (.if_icmp .ge 27, 3) := by decide +kernel
theorem dX11_image_45 : decode cX11_image 45 = .ok (.aload_n 0, 1) := by decide +kernel
theorem dX11_image_46 : decode cX11_image 46 = .ok (.getfield 16, 3) := by decide +kernel
theorem dX11_image_49 : decode cX11_image 49 = .ok (.sipush 2260, 3) := by decide +kernel
theorem dX11_image_52 : decode cX11_image 52 = .ok (.iload_n 1, 1) := by decide +kernel
theorem dX11_image_53 : decode cX11_image 53 = .ok (.imul, 1) := by decide +kernel
theorem dX11_image_54 : decode cX11_image 54 = .ok (.iload_n 2, 1) := by decide +kernel
theorem dX11_image_55 : decode cX11_image 55 = .ok (.iadd, 1) := by decide +kernel
theorem dX11_image_56 : decode cX11_image 56 = .ok (.aload_n 0, 1) := by decide +kernel
theorem dX11_image_57 : decode cX11_image 57 = .ok (.getfield 9, 3) := by decide +kernel
theorem dX11_image_60 : decode cX11_image 60 = .ok (.iload_n 2, 1) := by decide +kernel
theorem dX11_image_61 : decode cX11_image 61 = .ok (.iaload, 1) := by decide +kernel
theorem dX11_image_62 : decode cX11_image 62 = .ok (.iastore, 1) := by decide +kernel
theorem dX11_image_63 : decode cX11_image 63 = .ok (.iinc 2 1, 3) := by decide +kernel
theorem dX11_image_66 : decode cX11_image 66 = .ok (.goto (-28), 3) := by decide +kernel
theorem dX11_image_69 : decode cX11_image 69 = .ok (.return_, 1) := by decide +kernel
theorem dX11_restore_0 : decode cX11_restore 0 = .ok (.aload_n 0, 1) := by decide +kernel
theorem dX11_restore_1 : decode cX11_restore 1 = .ok (.iload_n 1, 1) := by decide +kernel
theorem dX11_restore_2 : decode cX11_restore 2 = .ok (.i2l, 1) := by decide +kernel
theorem dX11_restore_3 : decode cX11_restore 3 = .ok (.lconst 0, 1) := by decide +kernel
theorem dX11_restore_4 : decode cX11_restore 4 = .ok (.ldc2_w 371, 3) := by decide +kernel
theorem dX11_restore_7 : decode cX11_restore 7 = .ok (.invokestatic 131, 3) := by decide +kernel
theorem dX11_restore_10 : decode cX11_restore 10 = .ok (.ifCond .ne 7, 3) := by decide +kernel
theorem dX11_restore_13 : decode cX11_restore 13 = .ok (.iconst 1, 1) := by decide +kernel
theorem dX11_restore_14 : decode cX11_restore 14 = .ok (.goto 17, 3) := by decide +kernel
theorem dX11_restore_17 : decode cX11_restore 17 = .ok (.aload_n 0, 1) := by decide +kernel
theorem dX11_restore_18 : decode cX11_restore 18 = .ok (.getfield 19, 3) := by decide +kernel
theorem dX11_restore_21 : decode cX11_restore 21 = .ok (.iload_n 1, 1) := by decide +kernel
theorem dX11_restore_22 : decode cX11_restore 22 = .ok (.baload, 1) := by decide +kernel
theorem dX11_restore_23 : decode cX11_restore 23 = .ok (.ifCond .ne 7, 3) := by decide +kernel
theorem dX11_restore_26 : decode cX11_restore 26 = .ok (.iconst 2, 1) := by decide +kernel
theorem dX11_restore_27 : decode cX11_restore 27 = .ok (.goto 4, 3) := by decide +kernel
theorem dX11_restore_31 : decode cX11_restore 31 = .ok (.putfield 70, 3) := by decide +kernel
theorem dX11_restore_34 : decode cX11_restore 34 = .ok (.aload_n 0, 1) := by decide +kernel
theorem dX11_restore_35 : decode cX11_restore 35 = .ok (.getfield 70, 3) := by decide +kernel
theorem dX11_restore_38 : decode cX11_restore 38 = .ok (.ifCond .le 4, 3) := by decide +kernel
theorem dX11_restore_41 : decode cX11_restore 41 = .ok (.return_, 1) := by decide +kernel
theorem dX11_allThat_0 : decode cX11_allThat 0 = .ok (.iconst 0, 1) := by decide +kernel
theorem dX11_allThat_1 : decode cX11_allThat 1 = .ok (.istore_n 2, 1) := by decide +kernel
theorem dX11_allThat_2 : decode cX11_allThat 2 = .ok (.iconst 0, 1) := by decide +kernel
theorem dX11_allThat_3 : decode cX11_allThat 3 = .ok (.istore_n 3, 1) := by decide +kernel
theorem dX11_allThat_4 : decode cX11_allThat 4 = .ok (.iload_n 3, 1) := by decide +kernel
theorem dX11_allThat_5 : decode cX11_allThat 5 = .ok (.aload_n 0, 1) := by decide +kernel
theorem dX11_allThat_6 : decode cX11_allThat 6 = .ok (.invokevirtual 280, 3) := by decide +kernel
theorem dX11_allThat_9 : decode cX11_allThat 9 = .ok (.if_icmp .ge 26, 3) := by decide +kernel
theorem dX11_allThat_35 : decode cX11_allThat 35 = .ok (.iload_n 2, 1) := by decide +kernel
theorem dX11_allThat_36 : decode cX11_allThat 36 = .ok (.ireturn, 1) := by decide +kernel
theorem dX11_count_0 : decode cX11_count 0 = .ok (.aload_n 0, 1) := by decide +kernel
theorem dX11_count_1 : decode cX11_count 1 = .ok (.iconst 0, 1) := by decide +kernel
theorem dX11_count_2 : decode cX11_count 2 = .ok (.putfield 70, 3) := by decide +kernel
theorem dX11_count_5 : decode cX11_count 5 = .ok (.iload_n 1, 1) := by decide +kernel
theorem dX11_count_6 : decode cX11_count 6 = .ok (.tableswitch 138 0 11 #[62, 69, 76, 83, 88, 94, 100, 105, 112, 120, 128, 133], 62) := by decide +kernel
theorem dX11_count_68 : decode cX11_count 68 = .ok (.aload_n 0, 1) := by decide +kernel
theorem dX11_count_69 : decode cX11_count 69 = .ok (.getfield 9, 3) := by decide +kernel
theorem dX11_count_72 : decode cX11_count 72 = .ok (.iconst 0, 1) := by decide +kernel
theorem dX11_count_73 : decode cX11_count 73 = .ok (.iaload, 1) := by decide +kernel
theorem dX11_count_74 : decode cX11_count 74 = .ok (.ireturn, 1) := by decide +kernel
theorem dX11_count_75 : decode cX11_count 75 = .ok (.aload_n 0, 1) := by decide +kernel
theorem dX11_count_76 : decode cX11_count 76 = .ok (.getfield 9, 3) := by decide +kernel
theorem dX11_count_79 : decode cX11_count 79 = .ok (.iconst 1, 1) := by decide +kernel
theorem dX11_count_80 : decode cX11_count 80 = .ok (.iaload, 1) := by decide +kernel
theorem dX11_count_81 : decode cX11_count 81 = .ok (.ireturn, 1) := by decide +kernel
theorem dX11_count_82 : decode cX11_count 82 = .ok (.aload_n 0, 1) := by decide +kernel
theorem dX11_count_83 : decode cX11_count 83 = .ok (.getfield 9, 3) := by decide +kernel
theorem dX11_count_86 : decode cX11_count 86 = .ok (.iconst 2, 1) := by decide +kernel
theorem dX11_count_87 : decode cX11_count 87 = .ok (.iaload, 1) := by decide +kernel
theorem dX11_count_88 : decode cX11_count 88 = .ok (.ireturn, 1) := by decide +kernel
theorem dX11_count_89 : decode cX11_count 89 = .ok (.aload_n 0, 1) := by decide +kernel
theorem dX11_count_90 : decode cX11_count 90 = .ok (.invokevirtual 280, 3) := by decide +kernel
theorem dX11_count_93 : decode cX11_count 93 = .ok (.ireturn, 1) := by decide +kernel
theorem dX11_count_94 : decode cX11_count 94 = .ok (.aload_n 0, 1) := by decide +kernel
theorem dX11_count_95 : decode cX11_count 95 = .ok (.iconst 0, 1) := by decide +kernel
theorem dX11_count_96 : decode cX11_count 96 = .ok (.invokevirtual 531, 3) := by decide +kernel
theorem dX11_count_99 : decode cX11_count 99 = .ok (.ireturn, 1) := by decide +kernel
theorem dX11_count_100 : decode cX11_count 100 = .ok (.aload_n 0, 1) := by decide +kernel
theorem dX11_count_101 : decode cX11_count 101 = .ok (.iconst 1, 1) := by decide +kernel
theorem dX11_count_102 : decode cX11_count 102 = .ok (.invokevirtual 531, 3) := by decide +kernel
theorem dX11_count_105 : decode cX11_count 105 = .ok (.ireturn, 1) := by decide +kernel
theorem dX11_count_106 : decode cX11_count 106 = .ok (.aload_n 0, 1) := by decide +kernel
theorem dX11_count_107 : decode cX11_count 107 = .ok (.invokevirtual 434, 3) := by decide +kernel
theorem dX11_count_110 : decode cX11_count 110 = .ok (.ireturn, 1) := by decide +kernel
theorem dX11_count_111 : decode cX11_count 111 = .ok (.aload_n 0, 1) := by decide +kernel
theorem dX11_count_112 : decode cX11_count 112 = .ok (.getfield 9, 3) := by decide +kernel
theorem dX11_count_115 : decode cX11_count 115 = .ok (.iconst 4, 1) := by decide +kernel
theorem dX11_count_116 : decode cX11_count 116 = .ok (.iaload, 1) := by decide +kernel
theorem dX11_count_117 : decode cX11_count 117 = .ok (.ireturn, 1) := by decide +kernel
theorem dX11_count_118 : decode cX11_count 118 = .ok (.aload_n 0, 1) := by decide +kernel
theorem dX11_count_119 : decode cX11_count 119 = .ok (.getfield 9, 3) := by decide +kernel
theorem dX11_count_122 : decode cX11_count 122 = .ok (.bipush 40, 2) := by decide +kernel
theorem dX11_count_124 : decode cX11_count 124 = .ok (.iaload, 1) := by decide +kernel
theorem dX11_count_125 : decode cX11_count 125 = .ok (.ireturn, 1) := by decide +kernel
theorem dX11_count_126 : decode cX11_count 126 = .ok (.aload_n 0, 1) := by decide +kernel
theorem dX11_count_127 : decode cX11_count 127 = .ok (.getfield 9, 3) := by decide +kernel
theorem dX11_count_130 : decode cX11_count 130 = .ok (.bipush 7, 2) := by decide +kernel
theorem dX11_count_132 : decode cX11_count 132 = .ok (.iaload, 1) := by decide +kernel
theorem dX11_count_133 : decode cX11_count 133 = .ok (.ireturn, 1) := by decide +kernel
theorem dX11_count_134 : decode cX11_count 134 = .ok (.aload_n 0, 1) := by decide +kernel
theorem dX11_count_135 : decode cX11_count 135 = .ok (.getfield 73, 3) := by decide +kernel
theorem dX11_count_138 : decode cX11_count 138 = .ok (.ireturn, 1) := by decide +kernel
theorem dX11_count_139 : decode cX11_count 139 = .ok (.aload_n 0, 1) := by decide +kernel
theorem dX11_count_140 : decode cX11_count 140 = .ok (.invokevirtual 437, 3) := by decide +kernel
theorem dX11_count_143 : decode cX11_count 143 = .ok (.ireturn, 1) := by decide +kernel
theorem dX11_count_144 : decode cX11_count 144 = .ok (.iconst (-1), 1) := by decide +kernel
theorem dX11_count_145 : decode cX11_count 145 = .ok (.ireturn, 1) := by decide +kernel
theorem dL_district_0 : decode cL_district 0 = .ok (.aload_n 2, 1) := by decide +kernel
theorem dL_district_1 : decode cL_district 1 = .ok (.iconst 0, 1) := by decide +kernel
theorem dL_district_2 : decode cL_district 2 = .ok (.aload_n 0, 1) := by decide +kernel
theorem dL_district_3 : decode cL_district 3 = .ok (.iload_n 1, 1) := by decide +kernel
theorem dL_district_4 : decode cL_district 4 = .ok (.invokevirtual 7, 3) := by decide +kernel
theorem dL_district_7 : decode cL_district 7 = .ok (.i2l, 1) := by decide +kernel
theorem dL_district_8 : decode cL_district 8 = .ok (.lastore, 1) := by decide +kernel
theorem dL_district_9 : decode cL_district 9 = .ok (.goto 6, 3) := by decide +kernel
theorem dL_district_12 : decode cL_district 12 = .ok (.astore_n 3, 1) := by decide +kernel
theorem dL_district_13 : decode cL_district 13 = .ok (.iconst 1, 1) := by decide +kernel
theorem dL_district_14 : decode cL_district 14 = .ok (.ireturn, 1) := by decide +kernel
theorem dL_district_15 : decode cL_district 15 = .ok (.iconst 0, 1) := by decide +kernel
theorem dL_district_16 : decode cL_district 16 = .ok (.ireturn, 1) := by decide +kernel
theorem dL_thing_0 : decode cL_thing 0 = .ok (.aload_n 3, 1) := by decide +kernel
theorem dL_thing_1 : decode cL_thing 1 = .ok (.iconst 0, 1) := by decide +kernel
theorem dL_thing_2 : decode cL_thing 2 = .ok (.aload_n 0, 1) := by decide +kernel
theorem dL_thing_3 : decode cL_thing 3 = .ok (.iload_n 1, 1) := by decide +kernel
theorem dL_thing_4 : decode cL_thing 4 = .ok (.iload_n 2, 1) := by decide +kernel
theorem dL_thing_5 : decode cL_thing 5 = .ok (.invokevirtual 15, 3) := by decide +kernel
theorem dL_thing_8 : decode cL_thing 8 = .ok (.i2l, 1) := by decide +kernel
theorem dL_thing_9 : decode cL_thing 9 = .ok (.lastore, 1) := by decide +kernel
theorem dL_thing_10 : decode cL_thing 10 = .ok (.goto 11, 3) := by decide +kernel
theorem dL_thing_13 : decode cL_thing 13 = .ok (.astore 4, 2) := by decide +kernel
theorem dL_thing_15 : decode cL_thing 15 = .ok (.iconst 1, 1) := by decide +kernel
theorem dL_thing_16 : decode cL_thing 16 = .ok (.ireturn, 1) := by decide +kernel
theorem dL_thing_21 : decode cL_thing 21 = .ok (.iconst 0, 1) := by decide +kernel
theorem dL_thing_22 : decode cL_thing 22 = .ok (.ireturn, 1) := by decide +kernel
theorem dL_walker_0 : decode cL_walker 0 = .ok (.aload_n 3, 1) := by decide +kernel
theorem dL_walker_1 : decode cL_walker 1 = .ok (.iconst 0, 1) := by decide +kernel
theorem dL_walker_2 : decode cL_walker 2 = .ok (.aload_n 0, 1) := by decide +kernel
theorem dL_walker_3 : decode cL_walker 3 = .ok (.iload_n 1, 1) := by decide +kernel
theorem dL_walker_4 : decode cL_walker 4 = .ok (.iload_n 2, 1) := by decide +kernel
theorem dL_walker_5 : decode cL_walker 5 = .ok (.invokevirtual 21, 3) := by decide +kernel
theorem dL_walker_8 : decode cL_walker 8 = .ok (.i2l, 1) := by decide +kernel
theorem dL_walker_9 : decode cL_walker 9 = .ok (.lastore, 1) := by decide +kernel
theorem dL_walker_10 : decode cL_walker 10 = .ok (.goto 11, 3) := by decide +kernel
theorem dL_walker_13 : decode cL_walker 13 = .ok (.astore 4, 2) := by decide +kernel
theorem dL_walker_15 : decode cL_walker 15 = .ok (.iconst 1, 1) := by decide +kernel
theorem dL_walker_16 : decode cL_walker 16 = .ok (.ireturn, 1) := by decide +kernel
theorem dL_walker_21 : decode cL_walker 21 = .ok (.iconst 0, 1) := by decide +kernel
theorem dL_walker_22 : decode cL_walker 22 = .ok (.ireturn, 1) := by decide +kernel
theorem dL_height_0 : decode cL_height 0 = .ok (.aload_n 2, 1) := by decide +kernel
theorem dL_height_1 : decode cL_height 1 = .ok (.iconst 0, 1) := by decide +kernel
theorem dL_height_2 : decode cL_height 2 = .ok (.aload_n 0, 1) := by decide +kernel
theorem dL_height_3 : decode cL_height 3 = .ok (.iload_n 1, 1) := by decide +kernel
theorem dL_height_4 : decode cL_height 4 = .ok (.invokevirtual 24, 3) := by decide +kernel
theorem dL_height_7 : decode cL_height 7 = .ok (.i2l, 1) := by decide +kernel
theorem dL_height_8 : decode cL_height 8 = .ok (.lastore, 1) := by decide +kernel
theorem dL_height_9 : decode cL_height 9 = .ok (.goto 6, 3) := by decide +kernel
theorem dL_height_12 : decode cL_height 12 = .ok (.astore_n 3, 1) := by decide +kernel
theorem dL_height_13 : decode cL_height 13 = .ok (.iconst 1, 1) := by decide +kernel
theorem dL_height_14 : decode cL_height 14 = .ok (.ireturn, 1) := by decide +kernel
theorem dL_height_15 : decode cL_height 15 = .ok (.iconst 0, 1) := by decide +kernel
theorem dL_height_16 : decode cL_height 16 = .ok (.ireturn, 1) := by decide +kernel
theorem dL_at_0 : decode cL_at 0 = .ok (.aload_n 3, 1) := by decide +kernel
theorem dL_at_1 : decode cL_at 1 = .ok (.iconst 0, 1) := by decide +kernel
theorem dL_at_2 : decode cL_at 2 = .ok (.aload_n 0, 1) := by decide +kernel
theorem dL_at_3 : decode cL_at 3 = .ok (.iload_n 1, 1) := by decide +kernel
theorem dL_at_4 : decode cL_at 4 = .ok (.iload_n 2, 1) := by decide +kernel
theorem dL_at_5 : decode cL_at 5 = .ok (.invokevirtual 27, 3) := by decide +kernel
theorem dL_at_8 : decode cL_at 8 = .ok (.i2l, 1) := by decide +kernel
theorem dL_at_9 : decode cL_at 9 = .ok (.lastore, 1) := by decide +kernel
theorem dL_at_10 : decode cL_at 10 = .ok (.goto 7, 3) := by decide +kernel
theorem dL_at_13 : decode cL_at 13 = .ok (.astore 4, 2) := by decide +kernel
theorem dL_at_15 : decode cL_at 15 = .ok (.iconst 1, 1) := by decide +kernel
theorem dL_at_16 : decode cL_at 16 = .ok (.ireturn, 1) := by decide +kernel
theorem dL_at_17 : decode cL_at 17 = .ok (.iconst 0, 1) := by decide +kernel
theorem dL_at_18 : decode cL_at 18 = .ok (.ireturn, 1) := by decide +kernel
theorem dL_hanging_0 : decode cL_hanging 0 = .ok (.aload 5, 2) := by decide +kernel
theorem dL_hanging_2 : decode cL_hanging 2 = .ok (.iconst 0, 1) := by decide +kernel
theorem dL_hanging_3 : decode cL_hanging 3 = .ok (.aload_n 0, 1) := by decide +kernel
theorem dL_hanging_4 : decode cL_hanging 4 = .ok (.iload_n 1, 1) := by decide +kernel
theorem dL_hanging_5 : decode cL_hanging 5 = .ok (.iload_n 2, 1) := by decide +kernel
theorem dL_hanging_6 : decode cL_hanging 6 = .ok (.iload_n 3, 1) := by decide +kernel
theorem dL_hanging_7 : decode cL_hanging 7 = .ok (.iload 4, 2) := by decide +kernel
theorem dL_hanging_9 : decode cL_hanging 9 = .ok (.invokevirtual 30, 3) := by decide +kernel
theorem dL_hanging_12 : decode cL_hanging 12 = .ok (.i2l, 1) := by decide +kernel
theorem dL_hanging_13 : decode cL_hanging 13 = .ok (.lastore, 1) := by decide +kernel
theorem dL_hanging_14 : decode cL_hanging 14 = .ok (.goto 11, 3) := by decide +kernel
theorem dL_hanging_17 : decode cL_hanging 17 = .ok (.astore 6, 2) := by decide +kernel
theorem dL_hanging_19 : decode cL_hanging 19 = .ok (.iconst 1, 1) := by decide +kernel
theorem dL_hanging_20 : decode cL_hanging 20 = .ok (.ireturn, 1) := by decide +kernel
theorem dL_hanging_25 : decode cL_hanging 25 = .ok (.iconst 0, 1) := by decide +kernel
theorem dL_hanging_26 : decode cL_hanging 26 = .ok (.ireturn, 1) := by decide +kernel
theorem dL_hours_0 : decode cL_hours 0 = .ok (.aload_n 2, 1) := by decide +kernel
theorem dL_hours_1 : decode cL_hours 1 = .ok (.iconst 0, 1) := by decide +kernel
theorem dL_hours_2 : decode cL_hours 2 = .ok (.aload_n 0, 1) := by decide +kernel
theorem dL_hours_3 : decode cL_hours 3 = .ok (.iload_n 1, 1) := by decide +kernel
theorem dL_hours_4 : decode cL_hours 4 = .ok (.invokevirtual 34, 3) := by decide +kernel
theorem dL_hours_7 : decode cL_hours 7 = .ok (.i2l, 1) := by decide +kernel
theorem dL_hours_8 : decode cL_hours 8 = .ok (.lastore, 1) := by decide +kernel
theorem dL_hours_9 : decode cL_hours 9 = .ok (.goto 6, 3) := by decide +kernel
theorem dL_hours_12 : decode cL_hours 12 = .ok (.astore_n 3, 1) := by decide +kernel
theorem dL_hours_13 : decode cL_hours 13 = .ok (.iconst 1, 1) := by decide +kernel
theorem dL_hours_14 : decode cL_hours 14 = .ok (.ireturn, 1) := by decide +kernel
theorem dL_hours_15 : decode cL_hours 15 = .ok (.iconst 0, 1) := by decide +kernel
theorem dL_hours_16 : decode cL_hours 16 = .ok (.ireturn, 1) := by decide +kernel
theorem dL_undo_0 : decode cL_undo 0 = .ok (.aload_n 2, 1) := by decide +kernel
theorem dL_undo_1 : decode cL_undo 1 = .ok (.iconst 0, 1) := by decide +kernel
theorem dL_undo_2 : decode cL_undo 2 = .ok (.aload_n 0, 1) := by decide +kernel
theorem dL_undo_3 : decode cL_undo 3 = .ok (.iload_n 1, 1) := by decide +kernel
theorem dL_undo_4 : decode cL_undo 4 = .ok (.invokevirtual 37, 3) := by decide +kernel
theorem dL_undo_7 : decode cL_undo 7 = .ok (.i2l, 1) := by decide +kernel
theorem dL_undo_8 : decode cL_undo 8 = .ok (.lastore, 1) := by decide +kernel
theorem dL_undo_9 : decode cL_undo 9 = .ok (.goto 6, 3) := by decide +kernel
theorem dL_undo_12 : decode cL_undo 12 = .ok (.astore_n 3, 1) := by decide +kernel
theorem dL_undo_13 : decode cL_undo 13 = .ok (.iconst 1, 1) := by decide +kernel
theorem dL_undo_14 : decode cL_undo 14 = .ok (.ireturn, 1) := by decide +kernel
theorem dL_undo_15 : decode cL_undo 15 = .ok (.iconst 0, 1) := by decide +kernel
theorem dL_undo_16 : decode cL_undo 16 = .ok (.ireturn, 1) := by decide +kernel
theorem dL_judge_0 : decode cL_judge 0 = .ok (.aload_n 3, 1) := by decide +kernel
theorem dL_judge_1 : decode cL_judge 1 = .ok (.iconst 0, 1) := by decide +kernel
theorem dL_judge_2 : decode cL_judge 2 = .ok (.aload_n 0, 1) := by decide +kernel
theorem dL_judge_3 : decode cL_judge 3 = .ok (.iload_n 1, 1) := by decide +kernel
theorem dL_judge_4 : decode cL_judge 4 = .ok (.iload_n 2, 1) := by decide +kernel
theorem dL_judge_5 : decode cL_judge 5 = .ok (.invokevirtual 40, 3) := by decide +kernel
theorem dL_judge_8 : decode cL_judge 8 = .ok (.i2l, 1) := by decide +kernel
theorem dL_judge_9 : decode cL_judge 9 = .ok (.lastore, 1) := by decide +kernel
theorem dL_judge_10 : decode cL_judge 10 = .ok (.goto 15, 3) := by decide +kernel
theorem dL_judge_13 : decode cL_judge 13 = .ok (.astore 4, 2) := by decide +kernel
theorem dL_judge_15 : decode cL_judge 15 = .ok (.iconst 1, 1) := by decide +kernel
theorem dL_judge_16 : decode cL_judge 16 = .ok (.ireturn, 1) := by decide +kernel
theorem dL_judge_17 : decode cL_judge 17 = .ok (.astore 4, 2) := by decide +kernel
theorem dL_judge_19 : decode cL_judge 19 = .ok (.iconst 2, 1) := by decide +kernel
theorem dL_judge_20 : decode cL_judge 20 = .ok (.ireturn, 1) := by decide +kernel
theorem dL_judge_25 : decode cL_judge 25 = .ok (.iconst 0, 1) := by decide +kernel
theorem dL_judge_26 : decode cL_judge 26 = .ok (.ireturn, 1) := by decide +kernel
theorem dL_perform_0 : decode cL_perform 0 = .ok (.aload_n 2, 1) := by decide +kernel
theorem dL_perform_1 : decode cL_perform 1 = .ok (.iconst 0, 1) := by decide +kernel
theorem dL_perform_2 : decode cL_perform 2 = .ok (.aload_n 0, 1) := by decide +kernel
theorem dL_perform_3 : decode cL_perform 3 = .ok (.iload_n 1, 1) := by decide +kernel
theorem dL_perform_4 : decode cL_perform 4 = .ok (.invokevirtual 45, 3) := by decide +kernel
theorem dL_perform_7 : decode cL_perform 7 = .ok (.i2l, 1) := by decide +kernel
theorem dL_perform_8 : decode cL_perform 8 = .ok (.lastore, 1) := by decide +kernel
theorem dL_perform_9 : decode cL_perform 9 = .ok (.goto 9, 3) := by decide +kernel
theorem dL_perform_12 : decode cL_perform 12 = .ok (.astore_n 3, 1) := by decide +kernel
theorem dL_perform_13 : decode cL_perform 13 = .ok (.iconst 1, 1) := by decide +kernel
theorem dL_perform_14 : decode cL_perform 14 = .ok (.ireturn, 1) := by decide +kernel
theorem dL_perform_15 : decode cL_perform 15 = .ok (.astore_n 3, 1) := by decide +kernel
theorem dL_perform_16 : decode cL_perform 16 = .ok (.iconst 2, 1) := by decide +kernel
theorem dL_perform_17 : decode cL_perform 17 = .ok (.ireturn, 1) := by decide +kernel
theorem dL_perform_18 : decode cL_perform 18 = .ok (.iconst 0, 1) := by decide +kernel
theorem dL_perform_19 : decode cL_perform 19 = .ok (.ireturn, 1) := by decide +kernel
theorem dL_season_0 : decode cL_season 0 = .ok (.aload_n 3, 1) := by decide +kernel
theorem dL_season_1 : decode cL_season 1 = .ok (.iconst 0, 1) := by decide +kernel
theorem dL_season_2 : decode cL_season 2 = .ok (.aload_n 0, 1) := by decide +kernel
theorem dL_season_3 : decode cL_season 3 = .ok (.iload_n 1, 1) := by decide +kernel
theorem dL_season_4 : decode cL_season 4 = .ok (.iload_n 2, 1) := by decide +kernel
theorem dL_season_5 : decode cL_season 5 = .ok (.invokevirtual 48, 3) := by decide +kernel
theorem dL_season_8 : decode cL_season 8 = .ok (.i2l, 1) := by decide +kernel
theorem dL_season_9 : decode cL_season 9 = .ok (.lastore, 1) := by decide +kernel
theorem dL_season_10 : decode cL_season 10 = .ok (.goto 7, 3) := by decide +kernel
theorem dL_season_13 : decode cL_season 13 = .ok (.astore 4, 2) := by decide +kernel
theorem dL_season_15 : decode cL_season 15 = .ok (.iconst 1, 1) := by decide +kernel
theorem dL_season_16 : decode cL_season 16 = .ok (.ireturn, 1) := by decide +kernel
theorem dL_season_17 : decode cL_season 17 = .ok (.iconst 0, 1) := by decide +kernel
theorem dL_season_18 : decode cL_season 18 = .ok (.ireturn, 1) := by decide +kernel
theorem dL_falls_0 : decode cL_falls 0 = .ok (.aload_n 2, 1) := by decide +kernel
theorem dL_falls_1 : decode cL_falls 1 = .ok (.iconst 0, 1) := by decide +kernel
theorem dL_falls_2 : decode cL_falls 2 = .ok (.aload_n 0, 1) := by decide +kernel
theorem dL_falls_3 : decode cL_falls 3 = .ok (.iload_n 1, 1) := by decide +kernel
theorem dL_falls_4 : decode cL_falls 4 = .ok (.invokevirtual 51, 3) := by decide +kernel
theorem dL_falls_7 : decode cL_falls 7 = .ok (.i2l, 1) := by decide +kernel
theorem dL_falls_8 : decode cL_falls 8 = .ok (.lastore, 1) := by decide +kernel
theorem dL_falls_9 : decode cL_falls 9 = .ok (.goto 6, 3) := by decide +kernel
theorem dL_falls_12 : decode cL_falls 12 = .ok (.astore_n 3, 1) := by decide +kernel
theorem dL_falls_13 : decode cL_falls 13 = .ok (.iconst 1, 1) := by decide +kernel
theorem dL_falls_14 : decode cL_falls 14 = .ok (.ireturn, 1) := by decide +kernel
theorem dL_falls_15 : decode cL_falls 15 = .ok (.iconst 0, 1) := by decide +kernel
theorem dL_falls_16 : decode cL_falls 16 = .ok (.ireturn, 1) := by decide +kernel
theorem dL_lands_0 : decode cL_lands 0 = .ok (.aload_n 2, 1) := by decide +kernel
theorem dL_lands_1 : decode cL_lands 1 = .ok (.iconst 0, 1) := by decide +kernel
theorem dL_lands_2 : decode cL_lands 2 = .ok (.aload_n 0, 1) := by decide +kernel
theorem dL_lands_3 : decode cL_lands 3 = .ok (.iload_n 1, 1) := by decide +kernel
theorem dL_lands_4 : decode cL_lands 4 = .ok (.invokevirtual 54, 3) := by decide +kernel
theorem dL_lands_7 : decode cL_lands 7 = .ok (.i2l, 1) := by decide +kernel
theorem dL_lands_8 : decode cL_lands 8 = .ok (.lastore, 1) := by decide +kernel
theorem dL_lands_9 : decode cL_lands 9 = .ok (.goto 6, 3) := by decide +kernel
theorem dL_lands_12 : decode cL_lands 12 = .ok (.astore_n 3, 1) := by decide +kernel
theorem dL_lands_13 : decode cL_lands 13 = .ok (.iconst 1, 1) := by decide +kernel
theorem dL_lands_14 : decode cL_lands 14 = .ok (.ireturn, 1) := by decide +kernel
theorem dL_lands_15 : decode cL_lands 15 = .ok (.iconst 0, 1) := by decide +kernel
theorem dL_lands_16 : decode cL_lands 16 = .ok (.ireturn, 1) := by decide +kernel
theorem dL_fallIn_0 : decode cL_fallIn 0 = .ok (.aload_n 2, 1) := by decide +kernel
theorem dL_fallIn_1 : decode cL_fallIn 1 = .ok (.iconst 0, 1) := by decide +kernel
theorem dL_fallIn_2 : decode cL_fallIn 2 = .ok (.aload_n 0, 1) := by decide +kernel
theorem dL_fallIn_3 : decode cL_fallIn 3 = .ok (.iload_n 1, 1) := by decide +kernel
theorem dL_fallIn_4 : decode cL_fallIn 4 = .ok (.invokevirtual 57, 3) := by decide +kernel
theorem dL_fallIn_7 : decode cL_fallIn 7 = .ok (.i2l, 1) := by decide +kernel
theorem dL_fallIn_8 : decode cL_fallIn 8 = .ok (.lastore, 1) := by decide +kernel
theorem dL_fallIn_9 : decode cL_fallIn 9 = .ok (.goto 6, 3) := by decide +kernel
theorem dL_fallIn_12 : decode cL_fallIn 12 = .ok (.astore_n 3, 1) := by decide +kernel
theorem dL_fallIn_13 : decode cL_fallIn 13 = .ok (.iconst 1, 1) := by decide +kernel
theorem dL_fallIn_14 : decode cL_fallIn 14 = .ok (.ireturn, 1) := by decide +kernel
theorem dL_fallIn_15 : decode cL_fallIn 15 = .ok (.iconst 0, 1) := by decide +kernel
theorem dL_fallIn_16 : decode cL_fallIn 16 = .ok (.ireturn, 1) := by decide +kernel
theorem dL_frees_0 : decode cL_frees 0 = .ok (.aload_n 2, 1) := by decide +kernel
theorem dL_frees_1 : decode cL_frees 1 = .ok (.iconst 0, 1) := by decide +kernel
theorem dL_frees_2 : decode cL_frees 2 = .ok (.aload_n 0, 1) := by decide +kernel
theorem dL_frees_3 : decode cL_frees 3 = .ok (.iload_n 1, 1) := by decide +kernel
theorem dL_frees_4 : decode cL_frees 4 = .ok (.invokevirtual 60, 3) := by decide +kernel
theorem dL_frees_7 : decode cL_frees 7 = .ok (.i2l, 1) := by decide +kernel
theorem dL_frees_8 : decode cL_frees 8 = .ok (.lastore, 1) := by decide +kernel
theorem dL_frees_9 : decode cL_frees 9 = .ok (.goto 9, 3) := by decide +kernel
theorem dL_frees_12 : decode cL_frees 12 = .ok (.astore_n 3, 1) := by decide +kernel
theorem dL_frees_13 : decode cL_frees 13 = .ok (.iconst 1, 1) := by decide +kernel
theorem dL_frees_14 : decode cL_frees 14 = .ok (.ireturn, 1) := by decide +kernel
theorem dL_frees_18 : decode cL_frees 18 = .ok (.iconst 0, 1) := by decide +kernel
theorem dL_frees_19 : decode cL_frees 19 = .ok (.ireturn, 1) := by decide +kernel
theorem dL_heightIn_0 : decode cL_heightIn 0 = .ok (.aload_n 3, 1) := by decide +kernel
theorem dL_heightIn_1 : decode cL_heightIn 1 = .ok (.iconst 0, 1) := by decide +kernel
theorem dL_heightIn_2 : decode cL_heightIn 2 = .ok (.aload_n 0, 1) := by decide +kernel
theorem dL_heightIn_3 : decode cL_heightIn 3 = .ok (.iload_n 1, 1) := by decide +kernel
theorem dL_heightIn_4 : decode cL_heightIn 4 = .ok (.iload_n 2, 1) := by decide +kernel
theorem dL_heightIn_5 : decode cL_heightIn 5 = .ok (.invokevirtual 63, 3) := by decide +kernel
theorem dL_heightIn_8 : decode cL_heightIn 8 = .ok (.i2l, 1) := by decide +kernel
theorem dL_heightIn_9 : decode cL_heightIn 9 = .ok (.lastore, 1) := by decide +kernel
theorem dL_heightIn_10 : decode cL_heightIn 10 = .ok (.goto 11, 3) := by decide +kernel
theorem dL_heightIn_13 : decode cL_heightIn 13 = .ok (.astore 4, 2) := by decide +kernel
theorem dL_heightIn_15 : decode cL_heightIn 15 = .ok (.iconst 1, 1) := by decide +kernel
theorem dL_heightIn_16 : decode cL_heightIn 16 = .ok (.ireturn, 1) := by decide +kernel
theorem dL_heightIn_17 : decode cL_heightIn 17 = .ok (.astore 4, 2) := by decide +kernel
theorem dL_heightIn_19 : decode cL_heightIn 19 = .ok (.iconst 2, 1) := by decide +kernel
theorem dL_heightIn_20 : decode cL_heightIn 20 = .ok (.ireturn, 1) := by decide +kernel
theorem dL_heightIn_21 : decode cL_heightIn 21 = .ok (.iconst 0, 1) := by decide +kernel
theorem dL_heightIn_22 : decode cL_heightIn 22 = .ok (.ireturn, 1) := by decide +kernel
theorem dL_hurtIn_0 : decode cL_hurtIn 0 = .ok (.aload_n 2, 1) := by decide +kernel
theorem dL_hurtIn_1 : decode cL_hurtIn 1 = .ok (.iconst 0, 1) := by decide +kernel
theorem dL_hurtIn_2 : decode cL_hurtIn 2 = .ok (.aload_n 0, 1) := by decide +kernel
theorem dL_hurtIn_3 : decode cL_hurtIn 3 = .ok (.iload_n 1, 1) := by decide +kernel
theorem dL_hurtIn_4 : decode cL_hurtIn 4 = .ok (.invokevirtual 66, 3) := by decide +kernel
theorem dL_hurtIn_7 : decode cL_hurtIn 7 = .ok (.i2l, 1) := by decide +kernel
theorem dL_hurtIn_8 : decode cL_hurtIn 8 = .ok (.lastore, 1) := by decide +kernel
theorem dL_hurtIn_9 : decode cL_hurtIn 9 = .ok (.goto 6, 3) := by decide +kernel
theorem dL_hurtIn_12 : decode cL_hurtIn 12 = .ok (.astore_n 3, 1) := by decide +kernel
theorem dL_hurtIn_13 : decode cL_hurtIn 13 = .ok (.iconst 1, 1) := by decide +kernel
theorem dL_hurtIn_14 : decode cL_hurtIn 14 = .ok (.ireturn, 1) := by decide +kernel
theorem dL_hurtIn_15 : decode cL_hurtIn 15 = .ok (.iconst 0, 1) := by decide +kernel
theorem dL_hurtIn_16 : decode cL_hurtIn 16 = .ok (.ireturn, 1) := by decide +kernel
theorem dL_hurts_0 : decode cL_hurts 0 = .ok (.aload_n 2, 1) := by decide +kernel
theorem dL_hurts_1 : decode cL_hurts 1 = .ok (.iconst 0, 1) := by decide +kernel
theorem dL_hurts_2 : decode cL_hurts 2 = .ok (.aload_n 0, 1) := by decide +kernel
theorem dL_hurts_3 : decode cL_hurts 3 = .ok (.iload_n 1, 1) := by decide +kernel
theorem dL_hurts_4 : decode cL_hurts 4 = .ok (.invokevirtual 69, 3) := by decide +kernel
theorem dL_hurts_7 : decode cL_hurts 7 = .ok (.i2l, 1) := by decide +kernel
theorem dL_hurts_8 : decode cL_hurts 8 = .ok (.lastore, 1) := by decide +kernel
theorem dL_hurts_9 : decode cL_hurts 9 = .ok (.goto 6, 3) := by decide +kernel
theorem dL_hurts_12 : decode cL_hurts 12 = .ok (.astore_n 3, 1) := by decide +kernel
theorem dL_hurts_13 : decode cL_hurts 13 = .ok (.iconst 1, 1) := by decide +kernel
theorem dL_hurts_14 : decode cL_hurts 14 = .ok (.ireturn, 1) := by decide +kernel
theorem dL_hurts_15 : decode cL_hurts 15 = .ok (.iconst 0, 1) := by decide +kernel
theorem dL_hurts_16 : decode cL_hurts 16 = .ok (.ireturn, 1) := by decide +kernel
theorem dL_spares_0 : decode cL_spares 0 = .ok (.aload_n 3, 1) := by decide +kernel
theorem dL_spares_1 : decode cL_spares 1 = .ok (.iconst 0, 1) := by decide +kernel
theorem dL_spares_2 : decode cL_spares 2 = .ok (.aload_n 0, 1) := by decide +kernel
theorem dL_spares_3 : decode cL_spares 3 = .ok (.iload_n 1, 1) := by decide +kernel
theorem dL_spares_4 : decode cL_spares 4 = .ok (.iload_n 2, 1) := by decide +kernel
theorem dL_spares_5 : decode cL_spares 5 = .ok (.invokevirtual 72, 3) := by decide +kernel
theorem dL_spares_8 : decode cL_spares 8 = .ok (.i2l, 1) := by decide +kernel
theorem dL_spares_9 : decode cL_spares 9 = .ok (.lastore, 1) := by decide +kernel
theorem dL_spares_10 : decode cL_spares 10 = .ok (.goto 7, 3) := by decide +kernel
theorem dL_spares_13 : decode cL_spares 13 = .ok (.astore 4, 2) := by decide +kernel
theorem dL_spares_15 : decode cL_spares 15 = .ok (.iconst 1, 1) := by decide +kernel
theorem dL_spares_16 : decode cL_spares 16 = .ok (.ireturn, 1) := by decide +kernel
theorem dL_spares_17 : decode cL_spares 17 = .ok (.iconst 0, 1) := by decide +kernel
theorem dL_spares_18 : decode cL_spares 18 = .ok (.ireturn, 1) := by decide +kernel
theorem dL_fallsBy_0 : decode cL_fallsBy 0 = .ok (.aload 5, 2) := by decide +kernel
theorem dL_fallsBy_2 : decode cL_fallsBy 2 = .ok (.iconst 0, 1) := by decide +kernel
theorem dL_fallsBy_3 : decode cL_fallsBy 3 = .ok (.aload_n 0, 1) := by decide +kernel
theorem dL_fallsBy_4 : decode cL_fallsBy 4 = .ok (.iload_n 1, 1) := by decide +kernel
theorem dL_fallsBy_5 : decode cL_fallsBy 5 = .ok (.iload_n 2, 1) := by decide +kernel
theorem dL_fallsBy_6 : decode cL_fallsBy 6 = .ok (.iload_n 3, 1) := by decide +kernel
theorem dL_fallsBy_7 : decode cL_fallsBy 7 = .ok (.iload 4, 2) := by decide +kernel
theorem dL_fallsBy_9 : decode cL_fallsBy 9 = .ok (.invokevirtual 75, 3) := by decide +kernel
theorem dL_fallsBy_12 : decode cL_fallsBy 12 = .ok (.i2l, 1) := by decide +kernel
theorem dL_fallsBy_13 : decode cL_fallsBy 13 = .ok (.lastore, 1) := by decide +kernel
theorem dL_fallsBy_14 : decode cL_fallsBy 14 = .ok (.goto 15, 3) := by decide +kernel
theorem dL_fallsBy_17 : decode cL_fallsBy 17 = .ok (.astore 6, 2) := by decide +kernel
theorem dL_fallsBy_19 : decode cL_fallsBy 19 = .ok (.iconst 1, 1) := by decide +kernel
theorem dL_fallsBy_20 : decode cL_fallsBy 20 = .ok (.ireturn, 1) := by decide +kernel
theorem dL_fallsBy_29 : decode cL_fallsBy 29 = .ok (.iconst 0, 1) := by decide +kernel
theorem dL_fallsBy_30 : decode cL_fallsBy 30 = .ok (.ireturn, 1) := by decide +kernel
theorem dL_waitFor_0 : decode cL_waitFor 0 = .ok (.aload 5, 2) := by decide +kernel
theorem dL_waitFor_2 : decode cL_waitFor 2 = .ok (.iconst 0, 1) := by decide +kernel
theorem dL_waitFor_3 : decode cL_waitFor 3 = .ok (.aload_n 0, 1) := by decide +kernel
theorem dL_waitFor_4 : decode cL_waitFor 4 = .ok (.iload_n 1, 1) := by decide +kernel
theorem dL_waitFor_5 : decode cL_waitFor 5 = .ok (.iload_n 2, 1) := by decide +kernel
theorem dL_waitFor_6 : decode cL_waitFor 6 = .ok (.iload_n 3, 1) := by decide +kernel
theorem dL_waitFor_7 : decode cL_waitFor 7 = .ok (.iload 4, 2) := by decide +kernel
theorem dL_waitFor_9 : decode cL_waitFor 9 = .ok (.invokevirtual 78, 3) := by decide +kernel
theorem dL_waitFor_12 : decode cL_waitFor 12 = .ok (.i2l, 1) := by decide +kernel
theorem dL_waitFor_13 : decode cL_waitFor 13 = .ok (.lastore, 1) := by decide +kernel
theorem dL_waitFor_14 : decode cL_waitFor 14 = .ok (.goto 15, 3) := by decide +kernel
theorem dL_waitFor_17 : decode cL_waitFor 17 = .ok (.astore 6, 2) := by decide +kernel
theorem dL_waitFor_19 : decode cL_waitFor 19 = .ok (.iconst 1, 1) := by decide +kernel
theorem dL_waitFor_20 : decode cL_waitFor 20 = .ok (.ireturn, 1) := by decide +kernel
theorem dL_waitFor_29 : decode cL_waitFor 29 = .ok (.iconst 0, 1) := by decide +kernel
theorem dL_waitFor_30 : decode cL_waitFor 30 = .ok (.ireturn, 1) := by decide +kernel
theorem dL_waitSafe_0 : decode cL_waitSafe 0 = .ok (.aload 4, 2) := by decide +kernel
theorem dL_waitSafe_2 : decode cL_waitSafe 2 = .ok (.iconst 0, 1) := by decide +kernel
theorem dL_waitSafe_3 : decode cL_waitSafe 3 = .ok (.aload_n 0, 1) := by decide +kernel
theorem dL_waitSafe_4 : decode cL_waitSafe 4 = .ok (.iload_n 1, 1) := by decide +kernel
theorem dL_waitSafe_5 : decode cL_waitSafe 5 = .ok (.iload_n 2, 1) := by decide +kernel
theorem dL_waitSafe_6 : decode cL_waitSafe 6 = .ok (.iload_n 3, 1) := by decide +kernel
theorem dL_waitSafe_7 : decode cL_waitSafe 7 = .ok (.invokevirtual 81, 3) := by decide +kernel
theorem dL_waitSafe_10 : decode cL_waitSafe 10 = .ok (.i2l, 1) := by decide +kernel
theorem dL_waitSafe_11 : decode cL_waitSafe 11 = .ok (.lastore, 1) := by decide +kernel
theorem dL_waitSafe_12 : decode cL_waitSafe 12 = .ok (.goto 11, 3) := by decide +kernel
theorem dL_waitSafe_15 : decode cL_waitSafe 15 = .ok (.astore 5, 2) := by decide +kernel
theorem dL_waitSafe_17 : decode cL_waitSafe 17 = .ok (.iconst 1, 1) := by decide +kernel
theorem dL_waitSafe_18 : decode cL_waitSafe 18 = .ok (.ireturn, 1) := by decide +kernel
theorem dL_waitSafe_23 : decode cL_waitSafe 23 = .ok (.iconst 0, 1) := by decide +kernel
theorem dL_waitSafe_24 : decode cL_waitSafe 24 = .ok (.ireturn, 1) := by decide +kernel
theorem dL_waitHurt_0 : decode cL_waitHurt 0 = .ok (.aload 5, 2) := by decide +kernel
theorem dL_waitHurt_2 : decode cL_waitHurt 2 = .ok (.iconst 0, 1) := by decide +kernel
theorem dL_waitHurt_3 : decode cL_waitHurt 3 = .ok (.aload_n 0, 1) := by decide +kernel
theorem dL_waitHurt_4 : decode cL_waitHurt 4 = .ok (.iload_n 1, 1) := by decide +kernel
theorem dL_waitHurt_5 : decode cL_waitHurt 5 = .ok (.iload_n 2, 1) := by decide +kernel
theorem dL_waitHurt_6 : decode cL_waitHurt 6 = .ok (.iload_n 3, 1) := by decide +kernel
theorem dL_waitHurt_7 : decode cL_waitHurt 7 = .ok (.iload 4, 2) := by decide +kernel
theorem dL_waitHurt_9 : decode cL_waitHurt 9 = .ok (.invokevirtual 85, 3) := by decide +kernel
theorem dL_waitHurt_12 : decode cL_waitHurt 12 = .ok (.i2l, 1) := by decide +kernel
theorem dL_waitHurt_13 : decode cL_waitHurt 13 = .ok (.lastore, 1) := by decide +kernel
theorem dL_waitHurt_14 : decode cL_waitHurt 14 = .ok (.goto 11, 3) := by decide +kernel
theorem dL_waitHurt_17 : decode cL_waitHurt 17 = .ok (.astore 6, 2) := by decide +kernel
theorem dL_waitHurt_19 : decode cL_waitHurt 19 = .ok (.iconst 1, 1) := by decide +kernel
theorem dL_waitHurt_20 : decode cL_waitHurt 20 = .ok (.ireturn, 1) := by decide +kernel
theorem dL_waitHurt_25 : decode cL_waitHurt 25 = .ok (.iconst 0, 1) := by decide +kernel
theorem dL_waitHurt_26 : decode cL_waitHurt 26 = .ok (.ireturn, 1) := by decide +kernel
theorem dL_place_0 : decode cL_place 0 = .ok (.aload_n 3, 1) := by decide +kernel
theorem dL_place_1 : decode cL_place 1 = .ok (.iconst 0, 1) := by decide +kernel
theorem dL_place_2 : decode cL_place 2 = .ok (.aload_n 0, 1) := by decide +kernel
theorem dL_place_3 : decode cL_place 3 = .ok (.iload_n 1, 1) := by decide +kernel
theorem dL_place_4 : decode cL_place 4 = .ok (.iload_n 2, 1) := by decide +kernel
theorem dL_place_5 : decode cL_place 5 = .ok (.invokevirtual 88, 3) := by decide +kernel
theorem dL_place_8 : decode cL_place 8 = .ok (.i2l, 1) := by decide +kernel
theorem dL_place_9 : decode cL_place 9 = .ok (.lastore, 1) := by decide +kernel
theorem dL_place_10 : decode cL_place 10 = .ok (.goto 11, 3) := by decide +kernel
theorem dL_place_13 : decode cL_place 13 = .ok (.astore 4, 2) := by decide +kernel
theorem dL_place_15 : decode cL_place 15 = .ok (.iconst 1, 1) := by decide +kernel
theorem dL_place_16 : decode cL_place 16 = .ok (.ireturn, 1) := by decide +kernel
theorem dL_place_21 : decode cL_place 21 = .ok (.iconst 0, 1) := by decide +kernel
theorem dL_place_22 : decode cL_place 22 = .ok (.ireturn, 1) := by decide +kernel
theorem dL_worst_0 : decode cL_worst 0 = .ok (.aload_n 3, 1) := by decide +kernel
theorem dL_worst_1 : decode cL_worst 1 = .ok (.iconst 0, 1) := by decide +kernel
theorem dL_worst_2 : decode cL_worst 2 = .ok (.aload_n 0, 1) := by decide +kernel
theorem dL_worst_3 : decode cL_worst 3 = .ok (.iload_n 1, 1) := by decide +kernel
theorem dL_worst_4 : decode cL_worst 4 = .ok (.iload_n 2, 1) := by decide +kernel
theorem dL_worst_5 : decode cL_worst 5 = .ok (.invokevirtual 92, 3) := by decide +kernel
theorem dL_worst_8 : decode cL_worst 8 = .ok (.i2l, 1) := by decide +kernel
theorem dL_worst_9 : decode cL_worst 9 = .ok (.lastore, 1) := by decide +kernel
theorem dL_worst_10 : decode cL_worst 10 = .ok (.goto 15, 3) := by decide +kernel
theorem dL_worst_13 : decode cL_worst 13 = .ok (.astore 4, 2) := by decide +kernel
theorem dL_worst_15 : decode cL_worst 15 = .ok (.iconst 1, 1) := by decide +kernel
theorem dL_worst_16 : decode cL_worst 16 = .ok (.ireturn, 1) := by decide +kernel
theorem dL_worst_25 : decode cL_worst 25 = .ok (.iconst 0, 1) := by decide +kernel
theorem dL_worst_26 : decode cL_worst 26 = .ok (.ireturn, 1) := by decide +kernel
theorem dL_both_0 : decode cL_both 0 = .ok (.aload 7, 2) := by decide +kernel
theorem dL_both_2 : decode cL_both 2 = .ok (.iconst 0, 1) := by decide +kernel
theorem dL_both_3 : decode cL_both 3 = .ok (.aload_n 0, 1) := by decide +kernel
theorem dL_both_4 : decode cL_both 4 = .ok (.iload_n 1, 1) := by decide +kernel
theorem dL_both_5 : decode cL_both 5 = .ok (.iload_n 2, 1) := by decide +kernel
theorem dL_both_6 : decode cL_both 6 = .ok (.iload_n 3, 1) := by decide +kernel
theorem dL_both_7 : decode cL_both 7 = .ok (.iload 4, 2) := by decide +kernel
theorem dL_both_9 : decode cL_both 9 = .ok (.iload 5, 2) := by decide +kernel
theorem dL_both_11 : decode cL_both 11 = .ok (.iload 6, 2) := by decide +kernel
theorem dL_both_13 : decode cL_both 13 = .ok (.invokevirtual 95, 3) := by decide +kernel
theorem dL_both_16 : decode cL_both 16 = .ok (.i2l, 1) := by decide +kernel
theorem dL_both_17 : decode cL_both 17 = .ok (.lastore, 1) := by decide +kernel
theorem dL_both_18 : decode cL_both 18 = .ok (.goto 15, 3) := by decide +kernel
theorem dL_both_21 : decode cL_both 21 = .ok (.astore 8, 2) := by decide +kernel
theorem dL_both_23 : decode cL_both 23 = .ok (.iconst 1, 1) := by decide +kernel
theorem dL_both_24 : decode cL_both 24 = .ok (.ireturn, 1) := by decide +kernel
theorem dL_both_33 : decode cL_both 33 = .ok (.iconst 0, 1) := by decide +kernel
theorem dL_both_34 : decode cL_both 34 = .ok (.ireturn, 1) := by decide +kernel
theorem dL_safeWay_0 : decode cL_safeWay 0 = .ok (.aload 4, 2) := by decide +kernel
theorem dL_safeWay_2 : decode cL_safeWay 2 = .ok (.iconst 0, 1) := by decide +kernel
theorem dL_safeWay_3 : decode cL_safeWay 3 = .ok (.aload_n 0, 1) := by decide +kernel
theorem dL_safeWay_4 : decode cL_safeWay 4 = .ok (.iload_n 1, 1) := by decide +kernel
theorem dL_safeWay_5 : decode cL_safeWay 5 = .ok (.iload_n 2, 1) := by decide +kernel
theorem dL_safeWay_6 : decode cL_safeWay 6 = .ok (.iload_n 3, 1) := by decide +kernel
theorem dL_safeWay_7 : decode cL_safeWay 7 = .ok (.invokevirtual 99, 3) := by decide +kernel
theorem dL_safeWay_10 : decode cL_safeWay 10 = .ok (.i2l, 1) := by decide +kernel
theorem dL_safeWay_11 : decode cL_safeWay 11 = .ok (.lastore, 1) := by decide +kernel
theorem dL_safeWay_12 : decode cL_safeWay 12 = .ok (.goto 11, 3) := by decide +kernel
theorem dL_safeWay_15 : decode cL_safeWay 15 = .ok (.astore 5, 2) := by decide +kernel
theorem dL_safeWay_17 : decode cL_safeWay 17 = .ok (.iconst 1, 1) := by decide +kernel
theorem dL_safeWay_18 : decode cL_safeWay 18 = .ok (.ireturn, 1) := by decide +kernel
theorem dL_safeWay_19 : decode cL_safeWay 19 = .ok (.astore 5, 2) := by decide +kernel
theorem dL_safeWay_21 : decode cL_safeWay 21 = .ok (.iconst 2, 1) := by decide +kernel
theorem dL_safeWay_22 : decode cL_safeWay 22 = .ok (.ireturn, 1) := by decide +kernel
theorem dL_safeWay_23 : decode cL_safeWay 23 = .ok (.iconst 0, 1) := by decide +kernel
theorem dL_safeWay_24 : decode cL_safeWay 24 = .ok (.ireturn, 1) := by decide +kernel
theorem dL_safeWays_0 : decode cL_safeWays 0 = .ok (.aload 4, 2) := by decide +kernel
theorem dL_safeWays_2 : decode cL_safeWays 2 = .ok (.iconst 0, 1) := by decide +kernel
theorem dL_safeWays_3 : decode cL_safeWays 3 = .ok (.aload_n 0, 1) := by decide +kernel
theorem dL_safeWays_4 : decode cL_safeWays 4 = .ok (.iload_n 1, 1) := by decide +kernel
theorem dL_safeWays_5 : decode cL_safeWays 5 = .ok (.iload_n 2, 1) := by decide +kernel
theorem dL_safeWays_6 : decode cL_safeWays 6 = .ok (.iload_n 3, 1) := by decide +kernel
theorem dL_safeWays_7 : decode cL_safeWays 7 = .ok (.invokevirtual 102, 3) := by decide +kernel
theorem dL_safeWays_10 : decode cL_safeWays 10 = .ok (.lastore, 1) := by decide +kernel
theorem dL_safeWays_11 : decode cL_safeWays 11 = .ok (.goto 11, 3) := by decide +kernel
theorem dL_safeWays_14 : decode cL_safeWays 14 = .ok (.astore 5, 2) := by decide +kernel
theorem dL_safeWays_16 : decode cL_safeWays 16 = .ok (.iconst 1, 1) := by decide +kernel
theorem dL_safeWays_17 : decode cL_safeWays 17 = .ok (.ireturn, 1) := by decide +kernel
theorem dL_safeWays_18 : decode cL_safeWays 18 = .ok (.astore 5, 2) := by decide +kernel
theorem dL_safeWays_20 : decode cL_safeWays 20 = .ok (.iconst 2, 1) := by decide +kernel
theorem dL_safeWays_21 : decode cL_safeWays 21 = .ok (.ireturn, 1) := by decide +kernel
theorem dL_safeWays_22 : decode cL_safeWays 22 = .ok (.iconst 0, 1) := by decide +kernel
theorem dL_safeWays_23 : decode cL_safeWays 23 = .ok (.ireturn, 1) := by decide +kernel
theorem dL_safeIn_0 : decode cL_safeIn 0 = .ok (.aload_n 3, 1) := by decide +kernel
theorem dL_safeIn_1 : decode cL_safeIn 1 = .ok (.iconst 0, 1) := by decide +kernel
theorem dL_safeIn_2 : decode cL_safeIn 2 = .ok (.aload_n 0, 1) := by decide +kernel
theorem dL_safeIn_3 : decode cL_safeIn 3 = .ok (.iload_n 1, 1) := by decide +kernel
theorem dL_safeIn_4 : decode cL_safeIn 4 = .ok (.iload_n 2, 1) := by decide +kernel
theorem dL_safeIn_5 : decode cL_safeIn 5 = .ok (.invokevirtual 106, 3) := by decide +kernel
theorem dL_safeIn_8 : decode cL_safeIn 8 = .ok (.i2l, 1) := by decide +kernel
theorem dL_safeIn_9 : decode cL_safeIn 9 = .ok (.lastore, 1) := by decide +kernel
theorem dL_safeIn_10 : decode cL_safeIn 10 = .ok (.goto 11, 3) := by decide +kernel
theorem dL_safeIn_13 : decode cL_safeIn 13 = .ok (.astore 4, 2) := by decide +kernel
theorem dL_safeIn_15 : decode cL_safeIn 15 = .ok (.iconst 1, 1) := by decide +kernel
theorem dL_safeIn_16 : decode cL_safeIn 16 = .ok (.ireturn, 1) := by decide +kernel
theorem dL_safeIn_17 : decode cL_safeIn 17 = .ok (.astore 4, 2) := by decide +kernel
theorem dL_safeIn_19 : decode cL_safeIn 19 = .ok (.iconst 2, 1) := by decide +kernel
theorem dL_safeIn_20 : decode cL_safeIn 20 = .ok (.ireturn, 1) := by decide +kernel
theorem dL_safeIn_21 : decode cL_safeIn 21 = .ok (.iconst 0, 1) := by decide +kernel
theorem dL_safeIn_22 : decode cL_safeIn 22 = .ok (.ireturn, 1) := by decide +kernel
theorem dL_later_0 : decode cL_later 0 = .ok (.aload_n 3, 1) := by decide +kernel
theorem dL_later_1 : decode cL_later 1 = .ok (.iconst 0, 1) := by decide +kernel
theorem dL_later_2 : decode cL_later 2 = .ok (.aload_n 0, 1) := by decide +kernel
theorem dL_later_3 : decode cL_later 3 = .ok (.iload_n 1, 1) := by decide +kernel
theorem dL_later_4 : decode cL_later 4 = .ok (.iload_n 2, 1) := by decide +kernel
theorem dL_later_5 : decode cL_later 5 = .ok (.invokevirtual 109, 3) := by decide +kernel
theorem dL_later_8 : decode cL_later 8 = .ok (.i2l, 1) := by decide +kernel
theorem dL_later_9 : decode cL_later 9 = .ok (.lastore, 1) := by decide +kernel
theorem dL_later_10 : decode cL_later 10 = .ok (.goto 11, 3) := by decide +kernel
theorem dL_later_13 : decode cL_later 13 = .ok (.astore 4, 2) := by decide +kernel
theorem dL_later_15 : decode cL_later 15 = .ok (.iconst 1, 1) := by decide +kernel
theorem dL_later_16 : decode cL_later 16 = .ok (.ireturn, 1) := by decide +kernel
theorem dL_later_21 : decode cL_later 21 = .ok (.iconst 0, 1) := by decide +kernel
theorem dL_later_22 : decode cL_later 22 = .ok (.ireturn, 1) := by decide +kernel
theorem dL_letGoBy_0 : decode cL_letGoBy 0 = .ok (.aload 4, 2) := by decide +kernel
theorem dL_letGoBy_2 : decode cL_letGoBy 2 = .ok (.iconst 0, 1) := by decide +kernel
theorem dL_letGoBy_3 : decode cL_letGoBy 3 = .ok (.aload_n 0, 1) := by decide +kernel
theorem dL_letGoBy_4 : decode cL_letGoBy 4 = .ok (.iload_n 1, 1) := by decide +kernel
theorem dL_letGoBy_5 : decode cL_letGoBy 5 = .ok (.iload_n 2, 1) := by decide +kernel
theorem dL_letGoBy_6 : decode cL_letGoBy 6 = .ok (.iload_n 3, 1) := by decide +kernel
theorem dL_letGoBy_7 : decode cL_letGoBy 7 = .ok (.invokevirtual 112, 3) := by decide +kernel
theorem dL_letGoBy_10 : decode cL_letGoBy 10 = .ok (.i2l, 1) := by decide +kernel
theorem dL_letGoBy_11 : decode cL_letGoBy 11 = .ok (.lastore, 1) := by decide +kernel
theorem dL_letGoBy_12 : decode cL_letGoBy 12 = .ok (.goto 11, 3) := by decide +kernel
theorem dL_letGoBy_15 : decode cL_letGoBy 15 = .ok (.astore 5, 2) := by decide +kernel
theorem dL_letGoBy_17 : decode cL_letGoBy 17 = .ok (.iconst 1, 1) := by decide +kernel
theorem dL_letGoBy_18 : decode cL_letGoBy 18 = .ok (.ireturn, 1) := by decide +kernel
theorem dL_letGoBy_19 : decode cL_letGoBy 19 = .ok (.astore 5, 2) := by decide +kernel
theorem dL_letGoBy_21 : decode cL_letGoBy 21 = .ok (.iconst 2, 1) := by decide +kernel
theorem dL_letGoBy_22 : decode cL_letGoBy 22 = .ok (.ireturn, 1) := by decide +kernel
theorem dL_letGoBy_23 : decode cL_letGoBy 23 = .ok (.iconst 0, 1) := by decide +kernel
theorem dL_letGoBy_24 : decode cL_letGoBy 24 = .ok (.ireturn, 1) := by decide +kernel
theorem dL_letGoAt_0 : decode cL_letGoAt 0 = .ok (.aload 5, 2) := by decide +kernel
theorem dL_letGoAt_2 : decode cL_letGoAt 2 = .ok (.iconst 0, 1) := by decide +kernel
theorem dL_letGoAt_3 : decode cL_letGoAt 3 = .ok (.aload_n 0, 1) := by decide +kernel
theorem dL_letGoAt_4 : decode cL_letGoAt 4 = .ok (.iload_n 1, 1) := by decide +kernel
theorem dL_letGoAt_5 : decode cL_letGoAt 5 = .ok (.iload_n 2, 1) := by decide +kernel
theorem dL_letGoAt_6 : decode cL_letGoAt 6 = .ok (.iload_n 3, 1) := by decide +kernel
theorem dL_letGoAt_7 : decode cL_letGoAt 7 = .ok (.iload 4, 2) := by decide +kernel
theorem dL_letGoAt_9 : decode cL_letGoAt 9 = .ok (.invokevirtual 115, 3) := by decide +kernel
theorem dL_letGoAt_12 : decode cL_letGoAt 12 = .ok (.i2l, 1) := by decide +kernel
theorem dL_letGoAt_13 : decode cL_letGoAt 13 = .ok (.lastore, 1) := by decide +kernel
theorem dL_letGoAt_14 : decode cL_letGoAt 14 = .ok (.goto 11, 3) := by decide +kernel
theorem dL_letGoAt_17 : decode cL_letGoAt 17 = .ok (.astore 6, 2) := by decide +kernel
theorem dL_letGoAt_19 : decode cL_letGoAt 19 = .ok (.iconst 1, 1) := by decide +kernel
theorem dL_letGoAt_20 : decode cL_letGoAt 20 = .ok (.ireturn, 1) := by decide +kernel
theorem dL_letGoAt_21 : decode cL_letGoAt 21 = .ok (.astore 6, 2) := by decide +kernel
theorem dL_letGoAt_23 : decode cL_letGoAt 23 = .ok (.iconst 2, 1) := by decide +kernel
theorem dL_letGoAt_24 : decode cL_letGoAt 24 = .ok (.ireturn, 1) := by decide +kernel
theorem dL_letGoAt_25 : decode cL_letGoAt 25 = .ok (.iconst 0, 1) := by decide +kernel
theorem dL_letGoAt_26 : decode cL_letGoAt 26 = .ok (.ireturn, 1) := by decide +kernel
theorem dL_levels_0 : decode cL_levels 0 = .ok (.aload 5, 2) := by decide +kernel
theorem dL_levels_2 : decode cL_levels 2 = .ok (.iconst 0, 1) := by decide +kernel
theorem dL_levels_3 : decode cL_levels 3 = .ok (.aload_n 0, 1) := by decide +kernel
theorem dL_levels_4 : decode cL_levels 4 = .ok (.iload_n 1, 1) := by decide +kernel
theorem dL_levels_5 : decode cL_levels 5 = .ok (.iload_n 2, 1) := by decide +kernel
theorem dL_levels_6 : decode cL_levels 6 = .ok (.iload_n 3, 1) := by decide +kernel
theorem dL_levels_7 : decode cL_levels 7 = .ok (.iload 4, 2) := by decide +kernel
theorem dL_levels_9 : decode cL_levels 9 = .ok (.invokevirtual 118, 3) := by decide +kernel
theorem dL_levels_12 : decode cL_levels 12 = .ok (.i2l, 1) := by decide +kernel
theorem dL_levels_13 : decode cL_levels 13 = .ok (.lastore, 1) := by decide +kernel
theorem dL_levels_14 : decode cL_levels 14 = .ok (.goto 11, 3) := by decide +kernel
theorem dL_levels_17 : decode cL_levels 17 = .ok (.astore 6, 2) := by decide +kernel
theorem dL_levels_19 : decode cL_levels 19 = .ok (.iconst 1, 1) := by decide +kernel
theorem dL_levels_20 : decode cL_levels 20 = .ok (.ireturn, 1) := by decide +kernel
theorem dL_levels_21 : decode cL_levels 21 = .ok (.astore 6, 2) := by decide +kernel
theorem dL_levels_23 : decode cL_levels 23 = .ok (.iconst 2, 1) := by decide +kernel
theorem dL_levels_24 : decode cL_levels 24 = .ok (.ireturn, 1) := by decide +kernel
theorem dL_levels_25 : decode cL_levels 25 = .ok (.iconst 0, 1) := by decide +kernel
theorem dL_levels_26 : decode cL_levels 26 = .ok (.ireturn, 1) := by decide +kernel
theorem dL_tray_0 : decode cL_tray 0 = .ok (.aload_n 0, 1) := by decide +kernel
theorem dL_tray_1 : decode cL_tray 1 = .ok (.iload_n 1, 1) := by decide +kernel
theorem dL_tray_2 : decode cL_tray 2 = .ok (.iload_n 2, 1) := by decide +kernel
theorem dL_tray_3 : decode cL_tray 3 = .ok (.iload_n 3, 1) := by decide +kernel
theorem dL_tray_4 : decode cL_tray 4 = .ok (.invokevirtual 121, 3) := by decide +kernel
theorem dL_tray_7 : decode cL_tray 7 = .ok (.goto 11, 3) := by decide +kernel
theorem dL_tray_10 : decode cL_tray 10 = .ok (.astore 4, 2) := by decide +kernel
theorem dL_tray_12 : decode cL_tray 12 = .ok (.iconst 1, 1) := by decide +kernel
theorem dL_tray_13 : decode cL_tray 13 = .ok (.ireturn, 1) := by decide +kernel
theorem dL_tray_14 : decode cL_tray 14 = .ok (.astore 4, 2) := by decide +kernel
theorem dL_tray_16 : decode cL_tray 16 = .ok (.iconst 2, 1) := by decide +kernel
theorem dL_tray_17 : decode cL_tray 17 = .ok (.ireturn, 1) := by decide +kernel
theorem dL_tray_18 : decode cL_tray 18 = .ok (.iconst 0, 1) := by decide +kernel
theorem dL_tray_19 : decode cL_tray 19 = .ok (.ireturn, 1) := by decide +kernel
theorem dL_write_0 : decode cL_write 0 = .ok (.aload 5, 2) := by decide +kernel
theorem dL_write_2 : decode cL_write 2 = .ok (.iconst 0, 1) := by decide +kernel
theorem dL_write_3 : decode cL_write 3 = .ok (.aload_n 0, 1) := by decide +kernel
theorem dL_write_4 : decode cL_write 4 = .ok (.iload_n 1, 1) := by decide +kernel
theorem dL_write_5 : decode cL_write 5 = .ok (.iload_n 2, 1) := by decide +kernel
theorem dL_write_6 : decode cL_write 6 = .ok (.lload_n 3, 1) := by decide +kernel
theorem dL_write_7 : decode cL_write 7 = .ok (.invokevirtual 125, 3) := by decide +kernel
theorem dL_write_10 : decode cL_write 10 = .ok (.lastore, 1) := by decide +kernel
theorem dL_write_11 : decode cL_write 11 = .ok (.goto 15, 3) := by decide +kernel
theorem dL_write_14 : decode cL_write 14 = .ok (.astore 6, 2) := by decide +kernel
theorem dL_write_16 : decode cL_write 16 = .ok (.iconst 1, 1) := by decide +kernel
theorem dL_write_17 : decode cL_write 17 = .ok (.ireturn, 1) := by decide +kernel
theorem dL_write_18 : decode cL_write 18 = .ok (.astore 6, 2) := by decide +kernel
theorem dL_write_20 : decode cL_write 20 = .ok (.iconst 2, 1) := by decide +kernel
theorem dL_write_21 : decode cL_write 21 = .ok (.ireturn, 1) := by decide +kernel
theorem dL_write_26 : decode cL_write 26 = .ok (.iconst 0, 1) := by decide +kernel
theorem dL_write_27 : decode cL_write 27 = .ok (.ireturn, 1) := by decide +kernel
theorem dL_copy_0 : decode cL_copy 0 = .ok (.aload_n 2, 1) := by decide +kernel
theorem dL_copy_1 : decode cL_copy 1 = .ok (.iconst 0, 1) := by decide +kernel
theorem dL_copy_2 : decode cL_copy 2 = .ok (.aload_n 0, 1) := by decide +kernel
theorem dL_copy_3 : decode cL_copy 3 = .ok (.iload_n 1, 1) := by decide +kernel
theorem dL_copy_4 : decode cL_copy 4 = .ok (.invokevirtual 131, 3) := by decide +kernel
theorem dL_copy_7 : decode cL_copy 7 = .ok (.i2l, 1) := by decide +kernel
theorem dL_copy_8 : decode cL_copy 8 = .ok (.lastore, 1) := by decide +kernel
theorem dL_copy_9 : decode cL_copy 9 = .ok (.goto 9, 3) := by decide +kernel
theorem dL_copy_12 : decode cL_copy 12 = .ok (.astore_n 3, 1) := by decide +kernel
theorem dL_copy_13 : decode cL_copy 13 = .ok (.iconst 1, 1) := by decide +kernel
theorem dL_copy_14 : decode cL_copy 14 = .ok (.ireturn, 1) := by decide +kernel
theorem dL_copy_15 : decode cL_copy 15 = .ok (.astore_n 3, 1) := by decide +kernel
theorem dL_copy_16 : decode cL_copy 16 = .ok (.iconst 2, 1) := by decide +kernel
theorem dL_copy_17 : decode cL_copy 17 = .ok (.ireturn, 1) := by decide +kernel
theorem dL_copy_18 : decode cL_copy 18 = .ok (.iconst 0, 1) := by decide +kernel
theorem dL_copy_19 : decode cL_copy 19 = .ok (.ireturn, 1) := by decide +kernel
theorem dL_image_0 : decode cL_image 0 = .ok (.aload_n 0, 1) := by decide +kernel
theorem dL_image_1 : decode cL_image 1 = .ok (.iload_n 1, 1) := by decide +kernel
theorem dL_image_2 : decode cL_image 2 = .ok (.invokevirtual 134, 3) := by decide +kernel
theorem dL_image_5 : decode cL_image 5 = .ok (.goto 6, 3) := by decide +kernel
theorem dL_image_8 : decode cL_image 8 = .ok (.astore_n 2, 1) := by decide +kernel
theorem dL_image_9 : decode cL_image 9 = .ok (.iconst 1, 1) := by decide +kernel
theorem dL_image_10 : decode cL_image 10 = .ok (.ireturn, 1) := by decide +kernel
theorem dL_image_11 : decode cL_image 11 = .ok (.iconst 0, 1) := by decide +kernel
theorem dL_image_12 : decode cL_image 12 = .ok (.ireturn, 1) := by decide +kernel
theorem dL_restore_0 : decode cL_restore 0 = .ok (.aload_n 0, 1) := by decide +kernel
theorem dL_restore_1 : decode cL_restore 1 = .ok (.iload_n 1, 1) := by decide +kernel
theorem dL_restore_2 : decode cL_restore 2 = .ok (.invokevirtual 138, 3) := by decide +kernel
theorem dL_restore_5 : decode cL_restore 5 = .ok (.goto 9, 3) := by decide +kernel
theorem dL_restore_8 : decode cL_restore 8 = .ok (.astore_n 2, 1) := by decide +kernel
theorem dL_restore_9 : decode cL_restore 9 = .ok (.iconst 1, 1) := by decide +kernel
theorem dL_restore_10 : decode cL_restore 10 = .ok (.ireturn, 1) := by decide +kernel
theorem dL_restore_11 : decode cL_restore 11 = .ok (.astore_n 2, 1) := by decide +kernel
theorem dL_restore_12 : decode cL_restore 12 = .ok (.iconst 2, 1) := by decide +kernel
theorem dL_restore_13 : decode cL_restore 13 = .ok (.ireturn, 1) := by decide +kernel
theorem dL_restore_14 : decode cL_restore 14 = .ok (.iconst 0, 1) := by decide +kernel
theorem dL_restore_15 : decode cL_restore 15 = .ok (.ireturn, 1) := by decide +kernel
theorem dL_law_0 : decode cL_law 0 = .ok (.new 8, 3) := by decide +kernel
theorem dL_law_3 : decode cL_law 3 = .ok (.dup, 1) := by decide +kernel
theorem dL_law_4 : decode cL_law 4 = .ok (.invokespecial 141, 3) := by decide +kernel
theorem dL_law_7 : decode cL_law 7 = .ok (.astore_n 1, 1) := by decide +kernel
theorem dL_law_8 : decode cL_law 8 = .ok (.new 142, 3) := by decide +kernel
theorem dL_law_11 : decode cL_law 11 = .ok (.dup, 1) := by decide +kernel
theorem dL_law_12 : decode cL_law 12 = .ok (.invokespecial 144, 3) := by decide +kernel
theorem dL_law_15 : decode cL_law 15 = .ok (.astore_n 2, 1) := by decide +kernel
theorem dL_law_16 : decode cL_law 16 = .ok (.iconst 1, 1) := by decide +kernel
theorem dL_law_17 : decode cL_law 17 = .ok (.newarray .long, 2) := by decide +kernel
theorem dL_law_19 : decode cL_law 19 = .ok (.astore_n 3, 1) := by decide +kernel
theorem dL_law_20 : decode cL_law 20 = .ok (.iconst 0, 1) := by decide +kernel
theorem dL_law_21 : decode cL_law 21 = .ok (.istore 4, 2) := by decide +kernel
theorem dL_law_23 : decode cL_law 23 = .ok (.iload 4, 2) := by decide +kernel
theorem dL_law_25 : decode cL_law 25 = .ok (.aload_n 0, 1) := by decide +kernel
theorem dL_law_26 : decode cL_law 26 = .ok (.arraylength, 1) := by decide +kernel
theorem dL_law_27 : decode cL_law 27 = .ok (.bipush 7, 2) := by decide +kernel
theorem dL_law_29 : decode cL_law 29 = .ok (.isub, 1) := by decide +kernel
theorem dL_law_30 : decode cL_law 30 = .ok (.if_icmp .gt 3137, 3) := by decide +kernel
theorem dL_law_33 : decode cL_law 33 = .ok (.aload_n 0, 1) := by decide +kernel
theorem dL_law_34 : decode cL_law 34 = .ok (.iload 4, 2) := by decide +kernel
theorem dL_law_36 : decode cL_law 36 = .ok (.iaload, 1) := by decide +kernel
theorem dL_law_37 : decode cL_law 37 = .ok (.bipush 63, 2) := by decide +kernel
theorem dL_law_39 : decode cL_law 39 = .ok (.iand, 1) := by decide +kernel
theorem dL_law_40 : decode cL_law 40 = .ok (.tableswitch 3121 0 46 #[204, 277, 333, 358, 426, 494, 550, 618, 710, 759, 784, 797, 853, 909, 977, 1033, 1101, 1157, 1213, 1269, 1282, 1295, 1351, 1419, 1475, 1531, 1599, 1691, 1783, 1863, 1955, 2039, 2107, 2225, 2305, 2384, 2452, 2465, 2533, 2613, 2705, 2797, 2857, 2968, 3024, 3060, 3096], 204) := by decide +kernel
theorem dL_law_244 : decode cL_law 244 = .ok (.aload_n 1, 1) := by decide +kernel
theorem dL_law_245 : decode cL_law 245 = .ok (.aload_n 0, 1) := by decide +kernel
theorem dL_law_246 : decode cL_law 246 = .ok (.iload 4, 2) := by decide +kernel
theorem dL_law_248 : decode cL_law 248 = .ok (.iconst 1, 1) := by decide +kernel
theorem dL_law_249 : decode cL_law 249 = .ok (.iadd, 1) := by decide +kernel
theorem dL_law_250 : decode cL_law 250 = .ok (.iaload, 1) := by decide +kernel
theorem dL_law_251 : decode cL_law 251 = .ok (.aload_n 0, 1) := by decide +kernel
theorem dL_law_252 : decode cL_law 252 = .ok (.iload 4, 2) := by decide +kernel
theorem dL_law_254 : decode cL_law 254 = .ok (.iconst 2, 1) := by decide +kernel
theorem dL_law_255 : decode cL_law 255 = .ok (.iadd, 1) := by decide +kernel
theorem dL_law_256 : decode cL_law 256 = .ok (.iaload, 1) := by decide +kernel
theorem dL_law_257 : decode cL_law 257 = .ok (.aload_n 0, 1) := by decide +kernel
theorem dL_law_258 : decode cL_law 258 = .ok (.iload 4, 2) := by decide +kernel
theorem dL_law_260 : decode cL_law 260 = .ok (.iconst 3, 1) := by decide +kernel
theorem dL_law_261 : decode cL_law 261 = .ok (.iadd, 1) := by decide +kernel
theorem dL_law_262 : decode cL_law 262 = .ok (.iaload, 1) := by decide +kernel
theorem dL_law_263 : decode cL_law 263 = .ok (.aload_n 0, 1) := by decide +kernel
theorem dL_law_264 : decode cL_law 264 = .ok (.iload 4, 2) := by decide +kernel
theorem dL_law_266 : decode cL_law 266 = .ok (.iconst 4, 1) := by decide +kernel
theorem dL_law_267 : decode cL_law 267 = .ok (.iadd, 1) := by decide +kernel
theorem dL_law_268 : decode cL_law 268 = .ok (.iaload, 1) := by decide +kernel
theorem dL_law_269 : decode cL_law 269 = .ok (.aload_n 0, 1) := by decide +kernel
theorem dL_law_270 : decode cL_law 270 = .ok (.iload 4, 2) := by decide +kernel
theorem dL_law_272 : decode cL_law 272 = .ok (.iconst 5, 1) := by decide +kernel
theorem dL_law_273 : decode cL_law 273 = .ok (.iadd, 1) := by decide +kernel
theorem dL_law_274 : decode cL_law 274 = .ok (.iaload, 1) := by decide +kernel
theorem dL_law_275 : decode cL_law 275 = .ok (.invokevirtual 145, 3) := by decide +kernel
theorem dL_law_278 : decode cL_law 278 = .ok (.aload_n 2, 1) := by decide +kernel
theorem dL_law_279 : decode cL_law 279 = .ok (.aload_n 0, 1) := by decide +kernel
theorem dL_law_280 : decode cL_law 280 = .ok (.iload 4, 2) := by decide +kernel
theorem dL_law_282 : decode cL_law 282 = .ok (.iconst 1, 1) := by decide +kernel
theorem dL_law_283 : decode cL_law 283 = .ok (.iadd, 1) := by decide +kernel
theorem dL_law_284 : decode cL_law 284 = .ok (.iaload, 1) := by decide +kernel
theorem dL_law_285 : decode cL_law 285 = .ok (.aload_n 0, 1) := by decide +kernel
theorem dL_law_286 : decode cL_law 286 = .ok (.iload 4, 2) := by decide +kernel
theorem dL_law_288 : decode cL_law 288 = .ok (.iconst 2, 1) := by decide +kernel
theorem dL_law_289 : decode cL_law 289 = .ok (.iadd, 1) := by decide +kernel
theorem dL_law_290 : decode cL_law 290 = .ok (.iaload, 1) := by decide +kernel
theorem dL_law_291 : decode cL_law 291 = .ok (.aload_n 0, 1) := by decide +kernel
theorem dL_law_292 : decode cL_law 292 = .ok (.iload 4, 2) := by decide +kernel
theorem dL_law_294 : decode cL_law 294 = .ok (.iconst 3, 1) := by decide +kernel
theorem dL_law_295 : decode cL_law 295 = .ok (.iadd, 1) := by decide +kernel
theorem dL_law_296 : decode cL_law 296 = .ok (.iaload, 1) := by decide +kernel
theorem dL_law_297 : decode cL_law 297 = .ok (.aload_n 0, 1) := by decide +kernel
theorem dL_law_298 : decode cL_law 298 = .ok (.iload 4, 2) := by decide +kernel
theorem dL_law_300 : decode cL_law 300 = .ok (.iconst 4, 1) := by decide +kernel
theorem dL_law_301 : decode cL_law 301 = .ok (.iadd, 1) := by decide +kernel
theorem dL_law_302 : decode cL_law 302 = .ok (.iaload, 1) := by decide +kernel
theorem dL_law_303 : decode cL_law 303 = .ok (.aload_n 0, 1) := by decide +kernel
theorem dL_law_304 : decode cL_law 304 = .ok (.iload 4, 2) := by decide +kernel
theorem dL_law_306 : decode cL_law 306 = .ok (.iconst 5, 1) := by decide +kernel
theorem dL_law_307 : decode cL_law 307 = .ok (.iadd, 1) := by decide +kernel
theorem dL_law_308 : decode cL_law 308 = .ok (.iaload, 1) := by decide +kernel
theorem dL_law_309 : decode cL_law 309 = .ok (.invokevirtual 149, 3) := by decide +kernel
theorem dL_law_312 : decode cL_law 312 = .ok (.if_icmp .eq 2849, 3) := by decide +kernel
theorem dL_law_315 : decode cL_law 315 = .ok (.iconst 0, 1) := by decide +kernel
theorem dL_law_316 : decode cL_law 316 = .ok (.ireturn, 1) := by decide +kernel
theorem dL_law_317 : decode cL_law 317 = .ok (.aload_n 1, 1) := by decide +kernel
theorem dL_law_318 : decode cL_law 318 = .ok (.aload_n 0, 1) := by decide +kernel
theorem dL_law_319 : decode cL_law 319 = .ok (.iload 4, 2) := by decide +kernel
theorem dL_law_321 : decode cL_law 321 = .ok (.iconst 1, 1) := by decide +kernel
theorem dL_law_322 : decode cL_law 322 = .ok (.iadd, 1) := by decide +kernel
theorem dL_law_323 : decode cL_law 323 = .ok (.iaload, 1) := by decide +kernel
theorem dL_law_324 : decode cL_law 324 = .ok (.aload_n 3, 1) := by decide +kernel
theorem dL_law_325 : decode cL_law 325 = .ok (.invokestatic 150, 3) := by decide +kernel
theorem dL_law_328 : decode cL_law 328 = .ok (.istore 5, 2) := by decide +kernel
theorem dL_law_330 : decode cL_law 330 = .ok (.aload_n 2, 1) := by decide +kernel
theorem dL_law_331 : decode cL_law 331 = .ok (.aload_n 0, 1) := by decide +kernel
theorem dL_law_332 : decode cL_law 332 = .ok (.iload 4, 2) := by decide +kernel
theorem dL_law_334 : decode cL_law 334 = .ok (.iconst 1, 1) := by decide +kernel
theorem dL_law_335 : decode cL_law 335 = .ok (.iadd, 1) := by decide +kernel
theorem dL_law_336 : decode cL_law 336 = .ok (.iaload, 1) := by decide +kernel
theorem dL_law_337 : decode cL_law 337 = .ok (.invokevirtual 155, 3) := by decide +kernel
theorem dL_law_340 : decode cL_law 340 = .ok (.istore 6, 2) := by decide +kernel
theorem dL_law_342 : decode cL_law 342 = .ok (.aload_n 2, 1) := by decide +kernel
theorem dL_law_343 : decode cL_law 343 = .ok (.invokevirtual 156, 3) := by decide +kernel
theorem dL_law_346 : decode cL_law 346 = .ok (.iload 5, 2) := by decide +kernel
theorem dL_law_348 : decode cL_law 348 = .ok (.if_icmp .eq 5, 3) := by decide +kernel
theorem dL_law_351 : decode cL_law 351 = .ok (.iconst 0, 1) := by decide +kernel
theorem dL_law_352 : decode cL_law 352 = .ok (.ireturn, 1) := by decide +kernel
theorem dL_law_353 : decode cL_law 353 = .ok (.iload 5, 2) := by decide +kernel
theorem dL_law_355 : decode cL_law 355 = .ok (.ifCond .ne 15, 3) := by decide +kernel
theorem dL_law_358 : decode cL_law 358 = .ok (.aload_n 3, 1) := by decide +kernel
theorem dL_law_359 : decode cL_law 359 = .ok (.iconst 0, 1) := by decide +kernel
theorem dL_law_360 : decode cL_law 360 = .ok (.laload, 1) := by decide +kernel
theorem dL_law_361 : decode cL_law 361 = .ok (.iload 6, 2) := by decide +kernel
theorem dL_law_363 : decode cL_law 363 = .ok (.i2l, 1) := by decide +kernel
theorem dL_law_364 : decode cL_law 364 = .ok (.lcmp, 1) := by decide +kernel
theorem dL_law_365 : decode cL_law 365 = .ok (.ifCond .eq 5, 3) := by decide +kernel
theorem dL_law_368 : decode cL_law 368 = .ok (.iconst 0, 1) := by decide +kernel
theorem dL_law_369 : decode cL_law 369 = .ok (.ireturn, 1) := by decide +kernel
theorem dL_law_370 : decode cL_law 370 = .ok (.goto 2791, 3) := by decide +kernel
theorem dL_law_373 : decode cL_law 373 = .ok (.aload_n 1, 1) := by decide +kernel
theorem dL_law_374 : decode cL_law 374 = .ok (.aload_n 0, 1) := by decide +kernel
theorem dL_law_375 : decode cL_law 375 = .ok (.iload 4, 2) := by decide +kernel
theorem dL_law_377 : decode cL_law 377 = .ok (.iconst 1, 1) := by decide +kernel
theorem dL_law_378 : decode cL_law 378 = .ok (.iadd, 1) := by decide +kernel
