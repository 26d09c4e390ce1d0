theorem dX11_laysStep_0 : decode cX11_laysStep 0 = .ok (.aload_n 0, 1) := by decide +kernel
theorem dX11_laysStep_1 : decode cX11_laysStep 1 = .ok (.getfield 105, 3) := by decide +kernel
theorem dX11_laysStep_12 : decode cX11_laysStep 12 = .ok (.aload_n 0, 1) := by decide +kernel
theorem dX11_laysStep_13 : decode cX11_laysStep 13 = .ok (.getfield 138, 3) := by decide +kernel
theorem dX11_laysStep_16 : decode cX11_laysStep 16 = .ok (.aload_n 0, 1) := by decide +kernel
theorem dX11_laysStep_17 : decode cX11_laysStep 17 = .ok (.getfield 13, 3) := by decide +kernel
theorem dX11_laysStep_20 : decode cX11_laysStep 20 = .ok (.aload_n 0, 1) := by decide +kernel
theorem dX11_laysStep_21 : decode cX11_laysStep 21 = .ok (.getfield 141, 3) := by decide +kernel
theorem dX11_laysStep_24 : decode cX11_laysStep 24 = .ok (.iaload, 1) := by decide +kernel
theorem dX11_laysStep_25 : decode cX11_laysStep 25 = .ok (.iadd, 1) := by decide +kernel
theorem dX11_laysStep_26 : decode cX11_laysStep 26 = .ok (.iload_n 1, 1) := by decide +kernel
theorem dX11_laysStep_27 : decode cX11_laysStep 27 = .ok (.iastore, 1) := by decide +kernel
theorem dX11_laysStep_28 : decode cX11_laysStep 28 = .ok (.aload_n 0, 1) := by decide +kernel
theorem dX11_laysStep_29 : decode cX11_laysStep 29 = .ok (.getfield 13, 3) := by decide +kernel
theorem dX11_laysStep_32 : decode cX11_laysStep 32 = .ok (.aload_n 0, 1) := by decide +kernel
theorem dX11_laysStep_33 : decode cX11_laysStep 33 = .ok (.getfield 141, 3) := by decide +kernel
theorem dX11_laysStep_36 : decode cX11_laysStep 36 = .ok (.dup2, 1) := by decide +kernel
theorem dX11_laysStep_37 : decode cX11_laysStep 37 = .ok (.iaload, 1) := by decide +kernel
theorem dX11_laysStep_38 : decode cX11_laysStep 38 = .ok (.iconst 1, 1) := by decide +kernel
theorem dX11_laysStep_39 : decode cX11_laysStep 39 = .ok (.iadd, 1) := by decide +kernel
theorem dX11_laysStep_4 : decode cX11_laysStep 4 = .ok (.ifCond .eq 4, 3) := by decide +kernel
theorem dX11_laysStep_40 : decode cX11_laysStep 40 = .ok (.iastore, 1) := by decide +kernel
theorem dX11_laysStep_41 : decode cX11_laysStep 41 = .ok (.return_, 1) := by decide +kernel
theorem dX11_laysStep_7 : decode cX11_laysStep 7 = .ok (.return_, 1) := by decide +kernel
theorem dX11_laysStep_8 : decode cX11_laysStep 8 = .ok (.aload_n 0, 1) := by decide +kernel
theorem dX11_laysStep_9 : decode cX11_laysStep 9 = .ok (.getfield 13, 3) := by decide +kernel
