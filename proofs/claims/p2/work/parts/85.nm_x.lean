theorem dX11_image_0 : decode cX11_image 0 = .ok (.aload_n 0, 1) := by decide +kernel
theorem dX11_image_1 : decode cX11_image 1 = .ok (.iload_n 1, 1) := by decide +kernel
theorem dX11_image_10 : decode cX11_image 10 = .ok (.ifCond .eq 7, 3) := by decide +kernel
theorem dX11_image_13 : decode cX11_image 13 = .ok (.iconst 0, 1) := by decide +kernel
theorem dX11_image_14 : decode cX11_image 14 = .ok (.goto 4, 3) := by decide +kernel
theorem dX11_image_17 : decode cX11_image 17 = .ok (.iconst 1, 1) := by decide +kernel
theorem dX11_image_18 : decode cX11_image 18 = .ok (.putfield 70, 3) := by decide +kernel
theorem dX11_image_2 : decode cX11_image 2 = .ok (.i2l, 1) := by decide +kernel
theorem dX11_image_21 : decode cX11_image 21 = .ok (.aload_n 0, 1) := by decide +kernel
theorem dX11_image_22 : decode cX11_image 22 = .ok (.getfield 70, 3) := by decide +kernel
theorem dX11_image_25 : decode cX11_image 25 = .ok (.ifCond .le 4, 3) := by decide +kernel
theorem dX11_image_28 : decode cX11_image 28 = .ok (.return_, 1) := by decide +kernel
theorem dX11_image_29 : decode cX11_image 29 = .ok (.aload_n 0, 1) := by decide +kernel
theorem dX11_image_3 : decode cX11_image 3 = .ok (.lconst 0, 1) := by decide +kernel
theorem dX11_image_30 : decode cX11_image 30 = .ok (.getfield 19, 3) := by decide +kernel
theorem dX11_image_33 : decode cX11_image 33 = .ok (.iload_n 1, 1) := by decide +kernel
theorem dX11_image_34 : decode cX11_image 34 = .ok (.iconst 1, 1) := by decide +kernel
theorem dX11_image_35 : decode cX11_image 35 = .ok (.bastore, 1) := by decide +kernel
theorem dX11_image_36 : decode cX11_image 36 = .ok (.iconst 0, 1) := by decide +kernel
theorem dX11_image_37 : decode cX11_image 37 = .ok (.istore_n 2, 1) := by decide +kernel
theorem dX11_image_38 : decode cX11_image 38 = .ok (.iload_n 2, 1) := by decide +kernel
theorem dX11_image_39 : decode cX11_image 39 = .ok (.sipush 2260, 3) := by decide +kernel
theorem dX11_image_4 : decode cX11_image 4 = .ok (.ldc2_w 371, 3) := by decide +kernel
theorem dX11_image_42 : decode cX11_image 42 = .ok (.if_icmp .ge 27, 3) := by decide +kernel
theorem dX11_image_45 : decode cX11_image 45 = .ok (.aload_n 0, 1) := by decide +kernel
theorem dX11_image_46 : decode cX11_image 46 = .ok (.getfield 16, 3) := by decide +kernel
theorem dX11_image_49 : decode cX11_image 49 = .ok (.sipush 2260, 3) := by decide +kernel
theorem dX11_image_52 : decode cX11_image 52 = .ok (.iload_n 1, 1) := by decide +kernel
theorem dX11_image_53 : decode cX11_image 53 = .ok (.imul, 1) := by decide +kernel
theorem dX11_image_54 : decode cX11_image 54 = .ok (.iload_n 2, 1) := by decide +kernel
theorem dX11_image_55 : decode cX11_image 55 = .ok (.iadd, 1) := by decide +kernel
theorem dX11_image_56 : decode cX11_image 56 = .ok (.aload_n 0, 1) := by decide +kernel
theorem dX11_image_57 : decode cX11_image 57 = .ok (.getfield 9, 3) := by decide +kernel
theorem dX11_image_60 : decode cX11_image 60 = .ok (.iload_n 2, 1) := by decide +kernel
theorem dX11_image_61 : decode cX11_image 61 = .ok (.iaload, 1) := by decide +kernel
theorem dX11_image_62 : decode cX11_image 62 = .ok (.iastore, 1) := by decide +kernel
theorem dX11_image_63 : decode cX11_image 63 = .ok (.iinc 2 1, 3) := by decide +kernel
theorem dX11_image_66 : decode cX11_image 66 = .ok (.goto (-28), 3) := by decide +kernel
theorem dX11_image_69 : decode cX11_image 69 = .ok (.return_, 1) := by decide +kernel
theorem dX11_image_7 : decode cX11_image 7 = .ok (.invokestatic 131, 3) := by decide +kernel
theorem dX11_restore_0 : decode cX11_restore 0 = .ok (.aload_n 0, 1) := by decide +kernel
theorem dX11_restore_1 : decode cX11_restore 1 = .ok (.iload_n 1, 1) := by decide +kernel
theorem dX11_restore_10 : decode cX11_restore 10 = .ok (.ifCond .ne 7, 3) := by decide +kernel
theorem dX11_restore_13 : decode cX11_restore 13 = .ok (.iconst 1, 1) := by decide +kernel
theorem dX11_restore_14 : decode cX11_restore 14 = .ok (.goto 17, 3) := by decide +kernel
theorem dX11_restore_17 : decode cX11_restore 17 = .ok (.aload_n 0, 1) := by decide +kernel
theorem dX11_restore_18 : decode cX11_restore 18 = .ok (.getfield 19, 3) := by decide +kernel
theorem dX11_restore_2 : decode cX11_restore 2 = .ok (.i2l, 1) := by decide +kernel
theorem dX11_restore_21 : decode cX11_restore 21 = .ok (.iload_n 1, 1) := by decide +kernel
theorem dX11_restore_22 : decode cX11_restore 22 = .ok (.baload, 1) := by decide +kernel
theorem dX11_restore_23 : decode cX11_restore 23 = .ok (.ifCond .ne 7, 3) := by decide +kernel
theorem dX11_restore_26 : decode cX11_restore 26 = .ok (.iconst 2, 1) := by decide +kernel
theorem dX11_restore_27 : decode cX11_restore 27 = .ok (.goto 4, 3) := by decide +kernel
theorem dX11_restore_3 : decode cX11_restore 3 = .ok (.lconst 0, 1) := by decide +kernel
theorem dX11_restore_30 : decode cX11_restore 30 = .ok (.iconst 0, 1) := by decide +kernel
theorem dX11_restore_31 : decode cX11_restore 31 = .ok (.putfield 70, 3) := by decide +kernel
theorem dX11_restore_34 : decode cX11_restore 34 = .ok (.aload_n 0, 1) := by decide +kernel
theorem dX11_restore_35 : decode cX11_restore 35 = .ok (.getfield 70, 3) := by decide +kernel
theorem dX11_restore_38 : decode cX11_restore 38 = .ok (.ifCond .le 4, 3) := by decide +kernel
theorem dX11_restore_4 : decode cX11_restore 4 = .ok (.ldc2_w 371, 3) := by decide +kernel
theorem dX11_restore_41 : decode cX11_restore 41 = .ok (.return_, 1) := by decide +kernel
theorem dX11_restore_42 : decode cX11_restore 42 = .ok (.iconst 0, 1) := by decide +kernel
theorem dX11_restore_43 : decode cX11_restore 43 = .ok (.istore_n 2, 1) := by decide +kernel
theorem dX11_restore_44 : decode cX11_restore 44 = .ok (.iload_n 2, 1) := by decide +kernel
theorem dX11_restore_45 : decode cX11_restore 45 = .ok (.sipush 2260, 3) := by decide +kernel
theorem dX11_restore_48 : decode cX11_restore 48 = .ok (.if_icmp .ge 27, 3) := by decide +kernel
theorem dX11_restore_51 : decode cX11_restore 51 = .ok (.aload_n 0, 1) := by decide +kernel
theorem dX11_restore_52 : decode cX11_restore 52 = .ok (.getfield 9, 3) := by decide +kernel
theorem dX11_restore_55 : decode cX11_restore 55 = .ok (.iload_n 2, 1) := by decide +kernel
theorem dX11_restore_56 : decode cX11_restore 56 = .ok (.aload_n 0, 1) := by decide +kernel
theorem dX11_restore_57 : decode cX11_restore 57 = .ok (.getfield 16, 3) := by decide +kernel
theorem dX11_restore_60 : decode cX11_restore 60 = .ok (.sipush 2260, 3) := by decide +kernel
theorem dX11_restore_63 : decode cX11_restore 63 = .ok (.iload_n 1, 1) := by decide +kernel
theorem dX11_restore_64 : decode cX11_restore 64 = .ok (.imul, 1) := by decide +kernel
theorem dX11_restore_65 : decode cX11_restore 65 = .ok (.iload_n 2, 1) := by decide +kernel
theorem dX11_restore_66 : decode cX11_restore 66 = .ok (.iadd, 1) := by decide +kernel
theorem dX11_restore_67 : decode cX11_restore 67 = .ok (.iaload, 1) := by decide +kernel
theorem dX11_restore_68 : decode cX11_restore 68 = .ok (.iastore, 1) := by decide +kernel
theorem dX11_restore_69 : decode cX11_restore 69 = .ok (.iinc 2 1, 3) := by decide +kernel
theorem dX11_restore_7 : decode cX11_restore 7 = .ok (.invokestatic 131, 3) := by decide +kernel
theorem dX11_restore_72 : decode cX11_restore 72 = .ok (.goto (-28), 3) := by decide +kernel
theorem dX11_restore_75 : decode cX11_restore 75 = .ok (.return_, 1) := by decide +kernel
