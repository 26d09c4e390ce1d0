theorem dX11_busiest_0 : decode cX11_busiest 0 = .ok (.aload_n 0, 1) := by decide +kernel
theorem dX11_busiest_1 : decode cX11_busiest 1 = .ok (.iconst 0, 1) := by decide +kernel
theorem dX11_busiest_10 : decode cX11_busiest 10 = .ok (.istore_n 1, 1) := by decide +kernel
theorem dX11_busiest_11 : decode cX11_busiest 11 = .ok (.iconst 0, 1) := by decide +kernel
theorem dX11_busiest_12 : decode cX11_busiest 12 = .ok (.istore_n 2, 1) := by decide +kernel
theorem dX11_busiest_13 : decode cX11_busiest 13 = .ok (.aload_n 0, 1) := by decide +kernel
theorem dX11_busiest_14 : decode cX11_busiest 14 = .ok (.ldc_w 464, 3) := by decide +kernel
theorem dX11_busiest_17 : decode cX11_busiest 17 = .ok (.invokevirtual 461, 3) := by decide +kernel
theorem dX11_busiest_2 : decode cX11_busiest 2 = .ok (.putfield 70, 3) := by decide +kernel
theorem dX11_busiest_20 : decode cX11_busiest 20 = .ok (.ifCond .eq 36, 3) := by decide +kernel
theorem dX11_busiest_23 : decode cX11_busiest 23 = .ok (.aload_n 0, 1) := by decide +kernel
theorem dX11_busiest_24 : decode cX11_busiest 24 = .ok (.getfield 339, 3) := by decide +kernel
theorem dX11_busiest_27 : decode cX11_busiest 27 = .ok (.invokestatic 330, 3) := by decide +kernel
theorem dX11_busiest_30 : decode cX11_busiest 30 = .ok (.iload_n 2, 1) := by decide +kernel
theorem dX11_busiest_31 : decode cX11_busiest 31 = .ok (.if_icmp .gt 6, 3) := by decide +kernel
theorem dX11_busiest_34 : decode cX11_busiest 34 = .ok (.goto (-21), 3) := by decide +kernel
theorem dX11_busiest_37 : decode cX11_busiest 37 = .ok (.aload_n 0, 1) := by decide +kernel
theorem dX11_busiest_38 : decode cX11_busiest 38 = .ok (.getfield 339, 3) := by decide +kernel
theorem dX11_busiest_41 : decode cX11_busiest 41 = .ok (.invokestatic 330, 3) := by decide +kernel
theorem dX11_busiest_44 : decode cX11_busiest 44 = .ok (.istore_n 2, 1) := by decide +kernel
theorem dX11_busiest_45 : decode cX11_busiest 45 = .ok (.aload_n 0, 1) := by decide +kernel
theorem dX11_busiest_46 : decode cX11_busiest 46 = .ok (.getfield 9, 3) := by decide +kernel
theorem dX11_busiest_49 : decode cX11_busiest 49 = .ok (.bipush 40, 2) := by decide +kernel
theorem dX11_busiest_5 : decode cX11_busiest 5 = .ok (.aload_n 0, 1) := by decide +kernel
theorem dX11_busiest_51 : decode cX11_busiest 51 = .ok (.iaload, 1) := by decide +kernel
theorem dX11_busiest_52 : decode cX11_busiest 52 = .ok (.istore_n 1, 1) := by decide +kernel
theorem dX11_busiest_53 : decode cX11_busiest 53 = .ok (.goto (-40), 3) := by decide +kernel
theorem dX11_busiest_56 : decode cX11_busiest 56 = .ok (.aload_n 0, 1) := by decide +kernel
theorem dX11_busiest_57 : decode cX11_busiest 57 = .ok (.invokevirtual 440, 3) := by decide +kernel
theorem dX11_busiest_6 : decode cX11_busiest 6 = .ok (.invokevirtual 425, 3) := by decide +kernel
theorem dX11_busiest_60 : decode cX11_busiest 60 = .ok (.iload_n 1, 1) := by decide +kernel
theorem dX11_busiest_61 : decode cX11_busiest 61 = .ok (.iconst (-1), 1) := by decide +kernel
theorem dX11_busiest_62 : decode cX11_busiest 62 = .ok (.if_icmp .ne 7, 3) := by decide +kernel
theorem dX11_busiest_65 : decode cX11_busiest 65 = .ok (.iconst (-1), 1) := by decide +kernel
theorem dX11_busiest_66 : decode cX11_busiest 66 = .ok (.goto 12, 3) := by decide +kernel
theorem dX11_busiest_69 : decode cX11_busiest 69 = .ok (.iload_n 1, 1) := by decide +kernel
theorem dX11_busiest_70 : decode cX11_busiest 70 = .ok (.aload_n 0, 1) := by decide +kernel
theorem dX11_busiest_71 : decode cX11_busiest 71 = .ok (.getfield 9, 3) := by decide +kernel
theorem dX11_busiest_74 : decode cX11_busiest 74 = .ok (.bipush 40, 2) := by decide +kernel
theorem dX11_busiest_76 : decode cX11_busiest 76 = .ok (.iaload, 1) := by decide +kernel
theorem dX11_busiest_77 : decode cX11_busiest 77 = .ok (.isub, 1) := by decide +kernel
theorem dX11_busiest_78 : decode cX11_busiest 78 = .ok (.ireturn, 1) := by decide +kernel
theorem dX11_busiest_9 : decode cX11_busiest 9 = .ok (.iconst (-1), 1) := by decide +kernel
theorem dX11_fallIn_0 : decode cX11_fallIn 0 = .ok (.aload_n 0, 1) := by decide +kernel
theorem dX11_fallIn_1 : decode cX11_fallIn 1 = .ok (.iconst 0, 1) := by decide +kernel
theorem dX11_fallIn_11 : decode cX11_fallIn 11 = .ok (.invokestatic 131, 3) := by decide +kernel
theorem dX11_fallIn_14 : decode cX11_fallIn 14 = .ok (.ifCond .ne 9, 3) := by decide +kernel
theorem dX11_fallIn_17 : decode cX11_fallIn 17 = .ok (.aload_n 0, 1) := by decide +kernel
theorem dX11_fallIn_18 : decode cX11_fallIn 18 = .ok (.iconst 1, 1) := by decide +kernel
theorem dX11_fallIn_19 : decode cX11_fallIn 19 = .ok (.invokevirtual 269, 3) := by decide +kernel
theorem dX11_fallIn_2 : decode cX11_fallIn 2 = .ok (.putfield 70, 3) := by decide +kernel
theorem dX11_fallIn_22 : decode cX11_fallIn 22 = .ok (.ireturn, 1) := by decide +kernel
theorem dX11_fallIn_23 : decode cX11_fallIn 23 = .ok (.aload_n 0, 1) := by decide +kernel
theorem dX11_fallIn_24 : decode cX11_fallIn 24 = .ok (.invokevirtual 425, 3) := by decide +kernel
theorem dX11_fallIn_27 : decode cX11_fallIn 27 = .ok (.aload_n 0, 1) := by decide +kernel
theorem dX11_fallIn_28 : decode cX11_fallIn 28 = .ok (.getfield 9, 3) := by decide +kernel
theorem dX11_fallIn_31 : decode cX11_fallIn 31 = .ok (.bipush 40, 2) := by decide +kernel
theorem dX11_fallIn_33 : decode cX11_fallIn 33 = .ok (.iaload, 1) := by decide +kernel
theorem dX11_fallIn_34 : decode cX11_fallIn 34 = .ok (.iload_n 1, 1) := by decide +kernel
theorem dX11_fallIn_35 : decode cX11_fallIn 35 = .ok (.iadd, 1) := by decide +kernel
theorem dX11_fallIn_36 : decode cX11_fallIn 36 = .ok (.istore_n 2, 1) := by decide +kernel
theorem dX11_fallIn_37 : decode cX11_fallIn 37 = .ok (.iconst 0, 1) := by decide +kernel
theorem dX11_fallIn_38 : decode cX11_fallIn 38 = .ok (.istore_n 3, 1) := by decide +kernel
theorem dX11_fallIn_39 : decode cX11_fallIn 39 = .ok (.aload_n 0, 1) := by decide +kernel
theorem dX11_fallIn_40 : decode cX11_fallIn 40 = .ok (.iload_n 2, 1) := by decide +kernel
theorem dX11_fallIn_41 : decode cX11_fallIn 41 = .ok (.invokevirtual 461, 3) := by decide +kernel
theorem dX11_fallIn_44 : decode cX11_fallIn 44 = .ok (.ifCond .eq 26, 3) := by decide +kernel
theorem dX11_fallIn_47 : decode cX11_fallIn 47 = .ok (.aload_n 0, 1) := by decide +kernel
theorem dX11_fallIn_48 : decode cX11_fallIn 48 = .ok (.getfield 9, 3) := by decide +kernel
theorem dX11_fallIn_5 : decode cX11_fallIn 5 = .ok (.iload_n 1, 1) := by decide +kernel
theorem dX11_fallIn_51 : decode cX11_fallIn 51 = .ok (.bipush 40, 2) := by decide +kernel
theorem dX11_fallIn_53 : decode cX11_fallIn 53 = .ok (.iaload, 1) := by decide +kernel
theorem dX11_fallIn_54 : decode cX11_fallIn 54 = .ok (.iload_n 2, 1) := by decide +kernel
theorem dX11_fallIn_55 : decode cX11_fallIn 55 = .ok (.if_icmp .ne 10, 3) := by decide +kernel
theorem dX11_fallIn_58 : decode cX11_fallIn 58 = .ok (.aload_n 0, 1) := by decide +kernel
theorem dX11_fallIn_59 : decode cX11_fallIn 59 = .ok (.getfield 339, 3) := by decide +kernel
theorem dX11_fallIn_6 : decode cX11_fallIn 6 = .ok (.i2l, 1) := by decide +kernel
theorem dX11_fallIn_62 : decode cX11_fallIn 62 = .ok (.goto 4, 3) := by decide +kernel
theorem dX11_fallIn_65 : decode cX11_fallIn 65 = .ok (.iconst 0, 1) := by decide +kernel
theorem dX11_fallIn_66 : decode cX11_fallIn 66 = .ok (.istore_n 3, 1) := by decide +kernel
theorem dX11_fallIn_67 : decode cX11_fallIn 67 = .ok (.goto (-28), 3) := by decide +kernel
theorem dX11_fallIn_7 : decode cX11_fallIn 7 = .ok (.lconst 1, 1) := by decide +kernel
theorem dX11_fallIn_70 : decode cX11_fallIn 70 = .ok (.aload_n 0, 1) := by decide +kernel
theorem dX11_fallIn_71 : decode cX11_fallIn 71 = .ok (.invokevirtual 440, 3) := by decide +kernel
theorem dX11_fallIn_74 : decode cX11_fallIn 74 = .ok (.iload_n 3, 1) := by decide +kernel
theorem dX11_fallIn_75 : decode cX11_fallIn 75 = .ok (.ireturn, 1) := by decide +kernel
theorem dX11_fallIn_8 : decode cX11_fallIn 8 = .ok (.ldc2_w 377, 3) := by decide +kernel
theorem dX11_fallsIn_0 : decode cX11_fallsIn 0 = .ok (.aload_n 0, 1) := by decide +kernel
theorem dX11_fallsIn_1 : decode cX11_fallsIn 1 = .ok (.iload_n 1, 1) := by decide +kernel
theorem dX11_fallsIn_10 : decode cX11_fallsIn 10 = .ok (.ireturn, 1) := by decide +kernel
theorem dX11_fallsIn_11 : decode cX11_fallsIn 11 = .ok (.aload_n 0, 1) := by decide +kernel
theorem dX11_fallsIn_12 : decode cX11_fallsIn 12 = .ok (.invokevirtual 425, 3) := by decide +kernel
theorem dX11_fallsIn_15 : decode cX11_fallsIn 15 = .ok (.aload_n 0, 1) := by decide +kernel
theorem dX11_fallsIn_16 : decode cX11_fallsIn 16 = .ok (.iload_n 1, 1) := by decide +kernel
theorem dX11_fallsIn_17 : decode cX11_fallsIn 17 = .ok (.iconst 1, 1) := by decide +kernel
theorem dX11_fallsIn_18 : decode cX11_fallsIn 18 = .ok (.invokevirtual 283, 3) := by decide +kernel
theorem dX11_fallsIn_2 : decode cX11_fallsIn 2 = .ok (.iconst 1, 1) := by decide +kernel
theorem dX11_fallsIn_21 : decode cX11_fallsIn 21 = .ok (.ifCond .eq 14, 3) := by decide +kernel
theorem dX11_fallsIn_24 : decode cX11_fallsIn 24 = .ok (.aload_n 0, 1) := by decide +kernel
theorem dX11_fallsIn_25 : decode cX11_fallsIn 25 = .ok (.aload_n 0, 1) := by decide +kernel
theorem dX11_fallsIn_26 : decode cX11_fallsIn 26 = .ok (.invokevirtual 455, 3) := by decide +kernel
theorem dX11_fallsIn_29 : decode cX11_fallsIn 29 = .ok (.invokevirtual 355, 3) := by decide +kernel
theorem dX11_fallsIn_3 : decode cX11_fallsIn 3 = .ok (.invokevirtual 283, 3) := by decide +kernel
theorem dX11_fallsIn_32 : decode cX11_fallsIn 32 = .ok (.goto (-17), 3) := by decide +kernel
theorem dX11_fallsIn_35 : decode cX11_fallsIn 35 = .ok (.aload_n 0, 1) := by decide +kernel
theorem dX11_fallsIn_36 : decode cX11_fallsIn 36 = .ok (.getfield 9, 3) := by decide +kernel
theorem dX11_fallsIn_39 : decode cX11_fallsIn 39 = .ok (.bipush 24, 2) := by decide +kernel
theorem dX11_fallsIn_41 : decode cX11_fallsIn 41 = .ok (.iload_n 1, 1) := by decide +kernel
theorem dX11_fallsIn_42 : decode cX11_fallsIn 42 = .ok (.iadd, 1) := by decide +kernel
theorem dX11_fallsIn_43 : decode cX11_fallsIn 43 = .ok (.iaload, 1) := by decide +kernel
theorem dX11_fallsIn_44 : decode cX11_fallsIn 44 = .ok (.istore_n 2, 1) := by decide +kernel
theorem dX11_fallsIn_45 : decode cX11_fallsIn 45 = .ok (.aload_n 0, 1) := by decide +kernel
theorem dX11_fallsIn_46 : decode cX11_fallsIn 46 = .ok (.getfield 9, 3) := by decide +kernel
theorem dX11_fallsIn_49 : decode cX11_fallsIn 49 = .ok (.bipush 40, 2) := by decide +kernel
theorem dX11_fallsIn_51 : decode cX11_fallsIn 51 = .ok (.iaload, 1) := by decide +kernel
theorem dX11_fallsIn_52 : decode cX11_fallsIn 52 = .ok (.istore_n 3, 1) := by decide +kernel
theorem dX11_fallsIn_53 : decode cX11_fallsIn 53 = .ok (.aload_n 0, 1) := by decide +kernel
theorem dX11_fallsIn_54 : decode cX11_fallsIn 54 = .ok (.invokevirtual 440, 3) := by decide +kernel
theorem dX11_fallsIn_57 : decode cX11_fallsIn 57 = .ok (.aload_n 0, 1) := by decide +kernel
theorem dX11_fallsIn_58 : decode cX11_fallsIn 58 = .ok (.iload_n 2, 1) := by decide +kernel
theorem dX11_fallsIn_59 : decode cX11_fallsIn 59 = .ok (.putfield 458, 3) := by decide +kernel
theorem dX11_fallsIn_6 : decode cX11_fallsIn 6 = .ok (.ifCond .ne 5, 3) := by decide +kernel
theorem dX11_fallsIn_62 : decode cX11_fallsIn 62 = .ok (.iload_n 3, 1) := by decide +kernel
theorem dX11_fallsIn_63 : decode cX11_fallsIn 63 = .ok (.aload_n 0, 1) := by decide +kernel
theorem dX11_fallsIn_64 : decode cX11_fallsIn 64 = .ok (.getfield 9, 3) := by decide +kernel
theorem dX11_fallsIn_67 : decode cX11_fallsIn 67 = .ok (.bipush 40, 2) := by decide +kernel
theorem dX11_fallsIn_69 : decode cX11_fallsIn 69 = .ok (.iaload, 1) := by decide +kernel
theorem dX11_fallsIn_70 : decode cX11_fallsIn 70 = .ok (.isub, 1) := by decide +kernel
theorem dX11_fallsIn_71 : decode cX11_fallsIn 71 = .ok (.ireturn, 1) := by decide +kernel
theorem dX11_fallsIn_9 : decode cX11_fallsIn 9 = .ok (.iconst (-1), 1) := by decide +kernel
theorem dX11_falls_0 : decode cX11_falls 0 = .ok (.aload_n 0, 1) := by decide +kernel
theorem dX11_falls_1 : decode cX11_falls 1 = .ok (.iconst 0, 1) := by decide +kernel
theorem dX11_falls_11 : decode cX11_falls 11 = .ok (.ifCond .ne 9, 3) := by decide +kernel
theorem dX11_falls_14 : decode cX11_falls 14 = .ok (.aload_n 0, 1) := by decide +kernel
theorem dX11_falls_15 : decode cX11_falls 15 = .ok (.iconst 1, 1) := by decide +kernel
theorem dX11_falls_16 : decode cX11_falls 16 = .ok (.invokevirtual 269, 3) := by decide +kernel
theorem dX11_falls_19 : decode cX11_falls 19 = .ok (.ireturn, 1) := by decide +kernel
theorem dX11_falls_2 : decode cX11_falls 2 = .ok (.putfield 70, 3) := by decide +kernel
theorem dX11_falls_20 : decode cX11_falls 20 = .ok (.aload_n 0, 1) := by decide +kernel
theorem dX11_falls_21 : decode cX11_falls 21 = .ok (.iload_n 1, 1) := by decide +kernel
theorem dX11_falls_22 : decode cX11_falls 22 = .ok (.invokevirtual 452, 3) := by decide +kernel
theorem dX11_falls_25 : decode cX11_falls 25 = .ok (.ireturn, 1) := by decide +kernel
theorem dX11_falls_5 : decode cX11_falls 5 = .ok (.aload_n 0, 1) := by decide +kernel
theorem dX11_falls_6 : decode cX11_falls 6 = .ok (.iload_n 1, 1) := by decide +kernel
theorem dX11_falls_7 : decode cX11_falls 7 = .ok (.i2l, 1) := by decide +kernel
theorem dX11_falls_8 : decode cX11_falls 8 = .ok (.invokevirtual 363, 3) := by decide +kernel
theorem dX11_heightIn_0 : decode cX11_heightIn 0 = .ok (.aload_n 0, 1) := by decide +kernel
theorem dX11_heightIn_1 : decode cX11_heightIn 1 = .ok (.aload_n 0, 1) := by decide +kernel
theorem dX11_heightIn_10 : decode cX11_heightIn 10 = .ok (.iconst 1, 1) := by decide +kernel
theorem dX11_heightIn_11 : decode cX11_heightIn 11 = .ok (.goto 20, 3) := by decide +kernel
theorem dX11_heightIn_14 : decode cX11_heightIn 14 = .ok (.iload_n 2, 1) := by decide +kernel
theorem dX11_heightIn_15 : decode cX11_heightIn 15 = .ok (.i2l, 1) := by decide +kernel
theorem dX11_heightIn_16 : decode cX11_heightIn 16 = .ok (.lconst 0, 1) := by decide +kernel
theorem dX11_heightIn_17 : decode cX11_heightIn 17 = .ok (.ldc2_w 377, 3) := by decide +kernel
theorem dX11_heightIn_2 : decode cX11_heightIn 2 = .ok (.iload_n 1, 1) := by decide +kernel
theorem dX11_heightIn_20 : decode cX11_heightIn 20 = .ok (.invokestatic 131, 3) := by decide +kernel
theorem dX11_heightIn_23 : decode cX11_heightIn 23 = .ok (.ifCond .eq 7, 3) := by decide +kernel
theorem dX11_heightIn_26 : decode cX11_heightIn 26 = .ok (.iconst 0, 1) := by decide +kernel
theorem dX11_heightIn_27 : decode cX11_heightIn 27 = .ok (.goto 4, 3) := by decide +kernel
theorem dX11_heightIn_3 : decode cX11_heightIn 3 = .ok (.i2l, 1) := by decide +kernel
theorem dX11_heightIn_30 : decode cX11_heightIn 30 = .ok (.iconst 2, 1) := by decide +kernel
theorem dX11_heightIn_31 : decode cX11_heightIn 31 = .ok (.putfield 70, 3) := by decide +kernel
theorem dX11_heightIn_34 : decode cX11_heightIn 34 = .ok (.aload_n 0, 1) := by decide +kernel
theorem dX11_heightIn_35 : decode cX11_heightIn 35 = .ok (.getfield 70, 3) := by decide +kernel
theorem dX11_heightIn_38 : decode cX11_heightIn 38 = .ok (.ifCond .le 5, 3) := by decide +kernel
theorem dX11_heightIn_4 : decode cX11_heightIn 4 = .ok (.invokevirtual 286, 3) := by decide +kernel
theorem dX11_heightIn_41 : decode cX11_heightIn 41 = .ok (.iconst 0, 1) := by decide +kernel
theorem dX11_heightIn_42 : decode cX11_heightIn 42 = .ok (.ireturn, 1) := by decide +kernel
theorem dX11_heightIn_43 : decode cX11_heightIn 43 = .ok (.aload_n 0, 1) := by decide +kernel
theorem dX11_heightIn_44 : decode cX11_heightIn 44 = .ok (.invokevirtual 425, 3) := by decide +kernel
theorem dX11_heightIn_47 : decode cX11_heightIn 47 = .ok (.aload_n 0, 1) := by decide +kernel
theorem dX11_heightIn_48 : decode cX11_heightIn 48 = .ok (.getfield 9, 3) := by decide +kernel
theorem dX11_heightIn_51 : decode cX11_heightIn 51 = .ok (.bipush 40, 2) := by decide +kernel
theorem dX11_heightIn_53 : decode cX11_heightIn 53 = .ok (.iaload, 1) := by decide +kernel
theorem dX11_heightIn_54 : decode cX11_heightIn 54 = .ok (.iload_n 2, 1) := by decide +kernel
theorem dX11_heightIn_55 : decode cX11_heightIn 55 = .ok (.iadd, 1) := by decide +kernel
theorem dX11_heightIn_56 : decode cX11_heightIn 56 = .ok (.istore_n 3, 1) := by decide +kernel
theorem dX11_heightIn_57 : decode cX11_heightIn 57 = .ok (.iload_n 2, 1) := by decide +kernel
theorem dX11_heightIn_58 : decode cX11_heightIn 58 = .ok (.ifCond .le 7, 3) := by decide +kernel
theorem dX11_heightIn_61 : decode cX11_heightIn 61 = .ok (.iconst 1, 1) := by decide +kernel
theorem dX11_heightIn_62 : decode cX11_heightIn 62 = .ok (.goto 4, 3) := by decide +kernel
theorem dX11_heightIn_65 : decode cX11_heightIn 65 = .ok (.iconst 0, 1) := by decide +kernel
theorem dX11_heightIn_66 : decode cX11_heightIn 66 = .ok (.istore 4, 2) := by decide +kernel
theorem dX11_heightIn_68 : decode cX11_heightIn 68 = .ok (.iload 4, 2) := by decide +kernel
theorem dX11_heightIn_7 : decode cX11_heightIn 7 = .ok (.ifCond .ne 7, 3) := by decide +kernel
theorem dX11_heightIn_70 : decode cX11_heightIn 70 = .ok (.ifCond .eq 13, 3) := by decide +kernel
theorem dX11_heightIn_73 : decode cX11_heightIn 73 = .ok (.aload_n 0, 1) := by decide +kernel
theorem dX11_heightIn_74 : decode cX11_heightIn 74 = .ok (.iload_n 3, 1) := by decide +kernel
theorem dX11_heightIn_75 : decode cX11_heightIn 75 = .ok (.invokevirtual 461, 3) := by decide +kernel
theorem dX11_heightIn_78 : decode cX11_heightIn 78 = .ok (.istore 4, 2) := by decide +kernel
theorem dX11_heightIn_80 : decode cX11_heightIn 80 = .ok (.goto (-12), 3) := by decide +kernel
theorem dX11_heightIn_83 : decode cX11_heightIn 83 = .ok (.aload_n 0, 1) := by decide +kernel
theorem dX11_heightIn_84 : decode cX11_heightIn 84 = .ok (.iload_n 1, 1) := by decide +kernel
theorem dX11_heightIn_85 : decode cX11_heightIn 85 = .ok (.invokevirtual 311, 3) := by decide +kernel
theorem dX11_heightIn_88 : decode cX11_heightIn 88 = .ok (.istore 5, 2) := by decide +kernel
theorem dX11_heightIn_90 : decode cX11_heightIn 90 = .ok (.aload_n 0, 1) := by decide +kernel
theorem dX11_heightIn_91 : decode cX11_heightIn 91 = .ok (.invokevirtual 440, 3) := by decide +kernel
theorem dX11_heightIn_94 : decode cX11_heightIn 94 = .ok (.iload 5, 2) := by decide +kernel
theorem dX11_heightIn_96 : decode cX11_heightIn 96 = .ok (.ireturn, 1) := by decide +kernel
theorem dX11_hurtIn_0 : decode cX11_hurtIn 0 = .ok (.aload_n 0, 1) := by decide +kernel
theorem dX11_hurtIn_1 : decode cX11_hurtIn 1 = .ok (.iconst 0, 1) := by decide +kernel
theorem dX11_hurtIn_10 : decode cX11_hurtIn 10 = .ok (.ifCond .ne 9, 3) := by decide +kernel
theorem dX11_hurtIn_13 : decode cX11_hurtIn 13 = .ok (.aload_n 0, 1) := by decide +kernel
theorem dX11_hurtIn_14 : decode cX11_hurtIn 14 = .ok (.iconst 1, 1) := by decide +kernel
theorem dX11_hurtIn_15 : decode cX11_hurtIn 15 = .ok (.invokevirtual 269, 3) := by decide +kernel
theorem dX11_hurtIn_18 : decode cX11_hurtIn 18 = .ok (.ireturn, 1) := by decide +kernel
theorem dX11_hurtIn_19 : decode cX11_hurtIn 19 = .ok (.aload_n 0, 1) := by decide +kernel
theorem dX11_hurtIn_2 : decode cX11_hurtIn 2 = .ok (.putfield 70, 3) := by decide +kernel
theorem dX11_hurtIn_20 : decode cX11_hurtIn 20 = .ok (.invokevirtual 425, 3) := by decide +kernel
theorem dX11_hurtIn_23 : decode cX11_hurtIn 23 = .ok (.aload_n 0, 1) := by decide +kernel
theorem dX11_hurtIn_24 : decode cX11_hurtIn 24 = .ok (.getfield 9, 3) := by decide +kernel
theorem dX11_hurtIn_27 : decode cX11_hurtIn 27 = .ok (.bipush 41, 2) := by decide +kernel
theorem dX11_hurtIn_29 : decode cX11_hurtIn 29 = .ok (.iload_n 1, 1) := by decide +kernel
theorem dX11_hurtIn_30 : decode cX11_hurtIn 30 = .ok (.iadd, 1) := by decide +kernel
theorem dX11_hurtIn_31 : decode cX11_hurtIn 31 = .ok (.iaload, 1) := by decide +kernel
theorem dX11_hurtIn_32 : decode cX11_hurtIn 32 = .ok (.istore_n 2, 1) := by decide +kernel
theorem dX11_hurtIn_33 : decode cX11_hurtIn 33 = .ok (.iconst 1, 1) := by decide +kernel
theorem dX11_hurtIn_34 : decode cX11_hurtIn 34 = .ok (.istore_n 3, 1) := by decide +kernel
theorem dX11_hurtIn_35 : decode cX11_hurtIn 35 = .ok (.iload_n 3, 1) := by decide +kernel
theorem dX11_hurtIn_36 : decode cX11_hurtIn 36 = .ok (.ifCond .eq 27, 3) := by decide +kernel
theorem dX11_hurtIn_39 : decode cX11_hurtIn 39 = .ok (.aload_n 0, 1) := by decide +kernel
theorem dX11_hurtIn_40 : decode cX11_hurtIn 40 = .ok (.getfield 9, 3) := by decide +kernel
theorem dX11_hurtIn_43 : decode cX11_hurtIn 43 = .ok (.bipush 41, 2) := by decide +kernel
theorem dX11_hurtIn_45 : decode cX11_hurtIn 45 = .ok (.iload_n 1, 1) := by decide +kernel
theorem dX11_hurtIn_46 : decode cX11_hurtIn 46 = .ok (.iadd, 1) := by decide +kernel
theorem dX11_hurtIn_47 : decode cX11_hurtIn 47 = .ok (.iaload, 1) := by decide +kernel
theorem dX11_hurtIn_48 : decode cX11_hurtIn 48 = .ok (.iload_n 2, 1) := by decide +kernel
theorem dX11_hurtIn_49 : decode cX11_hurtIn 49 = .ok (.if_icmp .ne 14, 3) := by decide +kernel
theorem dX11_hurtIn_5 : decode cX11_hurtIn 5 = .ok (.aload_n 0, 1) := by decide +kernel
theorem dX11_hurtIn_52 : decode cX11_hurtIn 52 = .ok (.aload_n 0, 1) := by decide +kernel
theorem dX11_hurtIn_53 : decode cX11_hurtIn 53 = .ok (.ldc_w 464, 3) := by decide +kernel
theorem dX11_hurtIn_56 : decode cX11_hurtIn 56 = .ok (.invokevirtual 461, 3) := by decide +kernel
theorem dX11_hurtIn_59 : decode cX11_hurtIn 59 = .ok (.istore_n 3, 1) := by decide +kernel
theorem dX11_hurtIn_6 : decode cX11_hurtIn 6 = .ok (.iload_n 1, 1) := by decide +kernel
theorem dX11_hurtIn_60 : decode cX11_hurtIn 60 = .ok (.goto (-25), 3) := by decide +kernel
theorem dX11_hurtIn_63 : decode cX11_hurtIn 63 = .ok (.aload_n 0, 1) := by decide +kernel
theorem dX11_hurtIn_64 : decode cX11_hurtIn 64 = .ok (.getfield 9, 3) := by decide +kernel
theorem dX11_hurtIn_67 : decode cX11_hurtIn 67 = .ok (.bipush 40, 2) := by decide +kernel
theorem dX11_hurtIn_69 : decode cX11_hurtIn 69 = .ok (.iaload, 1) := by decide +kernel
theorem dX11_hurtIn_7 : decode cX11_hurtIn 7 = .ok (.invokevirtual 368, 3) := by decide +kernel
theorem dX11_hurtIn_70 : decode cX11_hurtIn 70 = .ok (.istore 4, 2) := by decide +kernel
theorem dX11_hurtIn_72 : decode cX11_hurtIn 72 = .ok (.aload_n 0, 1) := by decide +kernel
theorem dX11_hurtIn_73 : decode cX11_hurtIn 73 = .ok (.invokevirtual 440, 3) := by decide +kernel
theorem dX11_hurtIn_76 : decode cX11_hurtIn 76 = .ok (.iload_n 3, 1) := by decide +kernel
theorem dX11_hurtIn_77 : decode cX11_hurtIn 77 = .ok (.ifCond .eq 16, 3) := by decide +kernel
theorem dX11_hurtIn_80 : decode cX11_hurtIn 80 = .ok (.iload 4, 2) := by decide +kernel
theorem dX11_hurtIn_82 : decode cX11_hurtIn 82 = .ok (.aload_n 0, 1) := by decide +kernel
theorem dX11_hurtIn_83 : decode cX11_hurtIn 83 = .ok (.getfield 9, 3) := by decide +kernel
theorem dX11_hurtIn_86 : decode cX11_hurtIn 86 = .ok (.bipush 40, 2) := by decide +kernel
theorem dX11_hurtIn_88 : decode cX11_hurtIn 88 = .ok (.iaload, 1) := by decide +kernel
theorem dX11_hurtIn_89 : decode cX11_hurtIn 89 = .ok (.isub, 1) := by decide +kernel
theorem dX11_hurtIn_90 : decode cX11_hurtIn 90 = .ok (.goto 4, 3) := by decide +kernel
theorem dX11_hurtIn_93 : decode cX11_hurtIn 93 = .ok (.iconst (-1), 1) := by decide +kernel
theorem dX11_hurtIn_94 : decode cX11_hurtIn 94 = .ok (.ireturn, 1) := by decide +kernel
theorem dX11_hurtsOf_0 : decode cX11_hurtsOf 0 = .ok (.aload_n 0, 1) := by decide +kernel
theorem dX11_hurtsOf_1 : decode cX11_hurtsOf 1 = .ok (.getfield 9, 3) := by decide +kernel
theorem dX11_hurtsOf_10 : decode cX11_hurtsOf 10 = .ok (.iconst 1, 1) := by decide +kernel
theorem dX11_hurtsOf_11 : decode cX11_hurtsOf 11 = .ok (.istore_n 3, 1) := by decide +kernel
theorem dX11_hurtsOf_12 : decode cX11_hurtsOf 12 = .ok (.iload_n 3, 1) := by decide +kernel
theorem dX11_hurtsOf_13 : decode cX11_hurtsOf 13 = .ok (.ifCond .eq 14, 3) := by decide +kernel
theorem dX11_hurtsOf_16 : decode cX11_hurtsOf 16 = .ok (.aload_n 0, 1) := by decide +kernel
theorem dX11_hurtsOf_17 : decode cX11_hurtsOf 17 = .ok (.ldc_w 464, 3) := by decide +kernel
theorem dX11_hurtsOf_20 : decode cX11_hurtsOf 20 = .ok (.invokevirtual 461, 3) := by decide +kernel
theorem dX11_hurtsOf_23 : decode cX11_hurtsOf 23 = .ok (.istore_n 3, 1) := by decide +kernel
theorem dX11_hurtsOf_24 : decode cX11_hurtsOf 24 = .ok (.goto (-12), 3) := by decide +kernel
theorem dX11_hurtsOf_27 : decode cX11_hurtsOf 27 = .ok (.aload_n 0, 1) := by decide +kernel
theorem dX11_hurtsOf_28 : decode cX11_hurtsOf 28 = .ok (.getfield 9, 3) := by decide +kernel
theorem dX11_hurtsOf_31 : decode cX11_hurtsOf 31 = .ok (.bipush 41, 2) := by decide +kernel
theorem dX11_hurtsOf_33 : decode cX11_hurtsOf 33 = .ok (.iload_n 1, 1) := by decide +kernel
theorem dX11_hurtsOf_34 : decode cX11_hurtsOf 34 = .ok (.iadd, 1) := by decide +kernel
theorem dX11_hurtsOf_35 : decode cX11_hurtsOf 35 = .ok (.iaload, 1) := by decide +kernel
theorem dX11_hurtsOf_36 : decode cX11_hurtsOf 36 = .ok (.iload_n 2, 1) := by decide +kernel
theorem dX11_hurtsOf_37 : decode cX11_hurtsOf 37 = .ok (.isub, 1) := by decide +kernel
theorem dX11_hurtsOf_38 : decode cX11_hurtsOf 38 = .ok (.ireturn, 1) := by decide +kernel
theorem dX11_hurtsOf_4 : decode cX11_hurtsOf 4 = .ok (.bipush 41, 2) := by decide +kernel
theorem dX11_hurtsOf_6 : decode cX11_hurtsOf 6 = .ok (.iload_n 1, 1) := by decide +kernel
theorem dX11_hurtsOf_7 : decode cX11_hurtsOf 7 = .ok (.iadd, 1) := by decide +kernel
theorem dX11_hurtsOf_8 : decode cX11_hurtsOf 8 = .ok (.iaload, 1) := by decide +kernel
theorem dX11_hurtsOf_9 : decode cX11_hurtsOf 9 = .ok (.istore_n 2, 1) := by decide +kernel
theorem dX11_hurts_0 : decode cX11_hurts 0 = .ok (.aload_n 0, 1) := by decide +kernel
theorem dX11_hurts_1 : decode cX11_hurts 1 = .ok (.iconst 0, 1) := by decide +kernel
theorem dX11_hurts_10 : decode cX11_hurts 10 = .ok (.ifCond .ne 9, 3) := by decide +kernel
theorem dX11_hurts_13 : decode cX11_hurts 13 = .ok (.aload_n 0, 1) := by decide +kernel
theorem dX11_hurts_14 : decode cX11_hurts 14 = .ok (.iconst 1, 1) := by decide +kernel
theorem dX11_hurts_15 : decode cX11_hurts 15 = .ok (.invokevirtual 269, 3) := by decide +kernel
theorem dX11_hurts_18 : decode cX11_hurts 18 = .ok (.ireturn, 1) := by decide +kernel
theorem dX11_hurts_19 : decode cX11_hurts 19 = .ok (.aload_n 0, 1) := by decide +kernel
theorem dX11_hurts_2 : decode cX11_hurts 2 = .ok (.putfield 70, 3) := by decide +kernel
theorem dX11_hurts_20 : decode cX11_hurts 20 = .ok (.invokevirtual 425, 3) := by decide +kernel
theorem dX11_hurts_23 : decode cX11_hurts 23 = .ok (.aload_n 0, 1) := by decide +kernel
theorem dX11_hurts_24 : decode cX11_hurts 24 = .ok (.iload_n 1, 1) := by decide +kernel
theorem dX11_hurts_25 : decode cX11_hurts 25 = .ok (.invokevirtual 465, 3) := by decide +kernel
theorem dX11_hurts_28 : decode cX11_hurts 28 = .ok (.istore_n 2, 1) := by decide +kernel
theorem dX11_hurts_29 : decode cX11_hurts 29 = .ok (.aload_n 0, 1) := by decide +kernel
theorem dX11_hurts_30 : decode cX11_hurts 30 = .ok (.invokevirtual 440, 3) := by decide +kernel
theorem dX11_hurts_33 : decode cX11_hurts 33 = .ok (.iload_n 2, 1) := by decide +kernel
theorem dX11_hurts_34 : decode cX11_hurts 34 = .ok (.ireturn, 1) := by decide +kernel
theorem dX11_hurts_5 : decode cX11_hurts 5 = .ok (.aload_n 0, 1) := by decide +kernel
theorem dX11_hurts_6 : decode cX11_hurts 6 = .ok (.iload_n 1, 1) := by decide +kernel
theorem dX11_hurts_7 : decode cX11_hurts 7 = .ok (.invokevirtual 368, 3) := by decide +kernel
theorem dX11_lands_0 : decode cX11_lands 0 = .ok (.aload_n 0, 1) := by decide +kernel
theorem dX11_lands_1 : decode cX11_lands 1 = .ok (.iconst 0, 1) := by decide +kernel
theorem dX11_lands_11 : decode cX11_lands 11 = .ok (.ifCond .ne 9, 3) := by decide +kernel
theorem dX11_lands_14 : decode cX11_lands 14 = .ok (.aload_n 0, 1) := by decide +kernel
theorem dX11_lands_15 : decode cX11_lands 15 = .ok (.iconst 1, 1) := by decide +kernel
theorem dX11_lands_16 : decode cX11_lands 16 = .ok (.invokevirtual 269, 3) := by decide +kernel
theorem dX11_lands_19 : decode cX11_lands 19 = .ok (.ireturn, 1) := by decide +kernel
theorem dX11_lands_2 : decode cX11_lands 2 = .ok (.putfield 70, 3) := by decide +kernel
theorem dX11_lands_20 : decode cX11_lands 20 = .ok (.aload_n 0, 1) := by decide +kernel
theorem dX11_lands_21 : decode cX11_lands 21 = .ok (.iload_n 1, 1) := by decide +kernel
theorem dX11_lands_22 : decode cX11_lands 22 = .ok (.invokevirtual 452, 3) := by decide +kernel
theorem dX11_lands_25 : decode cX11_lands 25 = .ok (.iconst (-1), 1) := by decide +kernel
theorem dX11_lands_26 : decode cX11_lands 26 = .ok (.if_icmp .ne 7, 3) := by decide +kernel
theorem dX11_lands_29 : decode cX11_lands 29 = .ok (.iconst (-1), 1) := by decide +kernel
theorem dX11_lands_30 : decode cX11_lands 30 = .ok (.goto 7, 3) := by decide +kernel
theorem dX11_lands_33 : decode cX11_lands 33 = .ok (.aload_n 0, 1) := by decide +kernel
theorem dX11_lands_34 : decode cX11_lands 34 = .ok (.getfield 458, 3) := by decide +kernel
theorem dX11_lands_37 : decode cX11_lands 37 = .ok (.ireturn, 1) := by decide +kernel
theorem dX11_lands_5 : decode cX11_lands 5 = .ok (.aload_n 0, 1) := by decide +kernel
theorem dX11_lands_6 : decode cX11_lands 6 = .ok (.iload_n 1, 1) := by decide +kernel
theorem dX11_lands_7 : decode cX11_lands 7 = .ok (.i2l, 1) := by decide +kernel
theorem dX11_lands_8 : decode cX11_lands 8 = .ok (.invokevirtual 363, 3) := by decide +kernel
theorem dX11_later_0 : decode cX11_later 0 = .ok (.aload_n 0, 1) := by decide +kernel
theorem dX11_later_1 : decode cX11_later 1 = .ok (.aload_n 0, 1) := by decide +kernel
theorem dX11_later_10 : decode cX11_later 10 = .ok (.goto 20, 3) := by decide +kernel
theorem dX11_later_101 : decode cX11_later 101 = .ok (.iaload, 1) := by decide +kernel
theorem dX11_later_102 : decode cX11_later 102 = .ok (.iload_n 2, 1) := by decide +kernel
theorem dX11_later_103 : decode cX11_later 103 = .ok (.iadd, 1) := by decide +kernel
theorem dX11_later_104 : decode cX11_later 104 = .ok (.invokevirtual 345, 3) := by decide +kernel
theorem dX11_later_107 : decode cX11_later 107 = .ok (.if_icmp .ne 16, 3) := by decide +kernel
theorem dX11_later_110 : decode cX11_later 110 = .ok (.aload_n 0, 1) := by decide +kernel
theorem dX11_later_111 : decode cX11_later 111 = .ok (.getfield 9, 3) := by decide +kernel
theorem dX11_later_114 : decode cX11_later 114 = .ok (.bipush 45, 2) := by decide +kernel
theorem dX11_later_116 : decode cX11_later 116 = .ok (.iload 4, 2) := by decide +kernel
theorem dX11_later_118 : decode cX11_later 118 = .ok (.iadd, 1) := by decide +kernel
theorem dX11_later_119 : decode cX11_later 119 = .ok (.iaload, 1) := by decide +kernel
theorem dX11_later_120 : decode cX11_later 120 = .ok (.goto 4, 3) := by decide +kernel
theorem dX11_later_123 : decode cX11_later 123 = .ok (.iconst 0, 1) := by decide +kernel
theorem dX11_later_124 : decode cX11_later 124 = .ok (.iadd, 1) := by decide +kernel
theorem dX11_later_125 : decode cX11_later 125 = .ok (.istore_n 3, 1) := by decide +kernel
theorem dX11_later_126 : decode cX11_later 126 = .ok (.iinc 4 1, 3) := by decide +kernel
theorem dX11_later_129 : decode cX11_later 129 = .ok (.goto (-68), 3) := by decide +kernel
theorem dX11_later_13 : decode cX11_later 13 = .ok (.iload_n 2, 1) := by decide +kernel
theorem dX11_later_132 : decode cX11_later 132 = .ok (.goto (-84), 3) := by decide +kernel
theorem dX11_later_135 : decode cX11_later 135 = .ok (.aload_n 0, 1) := by decide +kernel
theorem dX11_later_136 : decode cX11_later 136 = .ok (.invokevirtual 440, 3) := by decide +kernel
theorem dX11_later_139 : decode cX11_later 139 = .ok (.iload_n 3, 1) := by decide +kernel
theorem dX11_later_14 : decode cX11_later 14 = .ok (.i2l, 1) := by decide +kernel
theorem dX11_later_140 : decode cX11_later 140 = .ok (.ireturn, 1) := by decide +kernel
theorem dX11_later_15 : decode cX11_later 15 = .ok (.lconst 0, 1) := by decide +kernel
theorem dX11_later_16 : decode cX11_later 16 = .ok (.ldc2_w 512, 3) := by decide +kernel
theorem dX11_later_19 : decode cX11_later 19 = .ok (.invokestatic 131, 3) := by decide +kernel
theorem dX11_later_2 : decode cX11_later 2 = .ok (.iload_n 1, 1) := by decide +kernel
theorem dX11_later_22 : decode cX11_later 22 = .ok (.ifCond .eq 7, 3) := by decide +kernel
theorem dX11_later_25 : decode cX11_later 25 = .ok (.iconst 0, 1) := by decide +kernel
theorem dX11_later_26 : decode cX11_later 26 = .ok (.goto 4, 3) := by decide +kernel
theorem dX11_later_29 : decode cX11_later 29 = .ok (.iconst 2, 1) := by decide +kernel
theorem dX11_later_3 : decode cX11_later 3 = .ok (.invokevirtual 368, 3) := by decide +kernel
theorem dX11_later_30 : decode cX11_later 30 = .ok (.putfield 70, 3) := by decide +kernel
theorem dX11_later_33 : decode cX11_later 33 = .ok (.aload_n 0, 1) := by decide +kernel
theorem dX11_later_34 : decode cX11_later 34 = .ok (.getfield 70, 3) := by decide +kernel
theorem dX11_later_37 : decode cX11_later 37 = .ok (.ifCond .le 5, 3) := by decide +kernel
theorem dX11_later_40 : decode cX11_later 40 = .ok (.iconst 0, 1) := by decide +kernel
theorem dX11_later_41 : decode cX11_later 41 = .ok (.ireturn, 1) := by decide +kernel
theorem dX11_later_42 : decode cX11_later 42 = .ok (.aload_n 0, 1) := by decide +kernel
theorem dX11_later_43 : decode cX11_later 43 = .ok (.invokevirtual 425, 3) := by decide +kernel
theorem dX11_later_46 : decode cX11_later 46 = .ok (.iconst 0, 1) := by decide +kernel
theorem dX11_later_47 : decode cX11_later 47 = .ok (.istore_n 3, 1) := by decide +kernel
theorem dX11_later_48 : decode cX11_later 48 = .ok (.aload_n 0, 1) := by decide +kernel
theorem dX11_later_49 : decode cX11_later 49 = .ok (.ldc_w 464, 3) := by decide +kernel
theorem dX11_later_52 : decode cX11_later 52 = .ok (.invokevirtual 461, 3) := by decide +kernel
theorem dX11_later_55 : decode cX11_later 55 = .ok (.ifCond .eq 80, 3) := by decide +kernel
theorem dX11_later_58 : decode cX11_later 58 = .ok (.iconst 0, 1) := by decide +kernel
theorem dX11_later_59 : decode cX11_later 59 = .ok (.istore 4, 2) := by decide +kernel
theorem dX11_later_6 : decode cX11_later 6 = .ok (.ifCond .ne 7, 3) := by decide +kernel
theorem dX11_later_61 : decode cX11_later 61 = .ok (.iload 4, 2) := by decide +kernel
theorem dX11_later_63 : decode cX11_later 63 = .ok (.aload_n 0, 1) := by decide +kernel
theorem dX11_later_64 : decode cX11_later 64 = .ok (.invokevirtual 280, 3) := by decide +kernel
theorem dX11_later_67 : decode cX11_later 67 = .ok (.if_icmp .ge 65, 3) := by decide +kernel
theorem dX11_later_70 : decode cX11_later 70 = .ok (.iload_n 3, 1) := by decide +kernel
theorem dX11_later_71 : decode cX11_later 71 = .ok (.aload_n 0, 1) := by decide +kernel
theorem dX11_later_72 : decode cX11_later 72 = .ok (.getfield 339, 3) := by decide +kernel
theorem dX11_later_75 : decode cX11_later 75 = .ok (.iload 4, 2) := by decide +kernel
theorem dX11_later_77 : decode cX11_later 77 = .ok (.invokestatic 323, 3) := by decide +kernel
theorem dX11_later_80 : decode cX11_later 80 = .ok (.ifCond .eq 43, 3) := by decide +kernel
theorem dX11_later_83 : decode cX11_later 83 = .ok (.aload_n 0, 1) := by decide +kernel
theorem dX11_later_84 : decode cX11_later 84 = .ok (.getfield 9, 3) := by decide +kernel
theorem dX11_later_87 : decode cX11_later 87 = .ok (.bipush 16, 2) := by decide +kernel
theorem dX11_later_89 : decode cX11_later 89 = .ok (.iload 4, 2) := by decide +kernel
theorem dX11_later_9 : decode cX11_later 9 = .ok (.iconst 1, 1) := by decide +kernel
theorem dX11_later_91 : decode cX11_later 91 = .ok (.iadd, 1) := by decide +kernel
theorem dX11_later_92 : decode cX11_later 92 = .ok (.iaload, 1) := by decide +kernel
theorem dX11_later_93 : decode cX11_later 93 = .ok (.aload_n 0, 1) := by decide +kernel
theorem dX11_later_94 : decode cX11_later 94 = .ok (.iload_n 1, 1) := by decide +kernel
theorem dX11_later_95 : decode cX11_later 95 = .ok (.aload_n 0, 1) := by decide +kernel
theorem dX11_later_96 : decode cX11_later 96 = .ok (.getfield 9, 3) := by decide +kernel
theorem dX11_later_99 : decode cX11_later 99 = .ok (.bipush 40, 2) := by decide +kernel
theorem dX11_nextFall_0 : decode cX11_nextFall 0 = .ok (.aload_n 0, 1) := by decide +kernel
theorem dX11_nextFall_1 : decode cX11_nextFall 1 = .ok (.invokevirtual 455, 3) := by decide +kernel
theorem dX11_nextFall_10 : decode cX11_nextFall 10 = .ok (.iconst 0, 1) := by decide +kernel
theorem dX11_nextFall_11 : decode cX11_nextFall 11 = .ok (.ireturn, 1) := by decide +kernel
theorem dX11_nextFall_12 : decode cX11_nextFall 12 = .ok (.aload_n 0, 1) := by decide +kernel
theorem dX11_nextFall_13 : decode cX11_nextFall 13 = .ok (.iload_n 2, 1) := by decide +kernel
theorem dX11_nextFall_14 : decode cX11_nextFall 14 = .ok (.invokevirtual 355, 3) := by decide +kernel
theorem dX11_nextFall_17 : decode cX11_nextFall 17 = .ok (.iconst 1, 1) := by decide +kernel
theorem dX11_nextFall_18 : decode cX11_nextFall 18 = .ok (.ireturn, 1) := by decide +kernel
theorem dX11_nextFall_4 : decode cX11_nextFall 4 = .ok (.istore_n 2, 1) := by decide +kernel
theorem dX11_nextFall_5 : decode cX11_nextFall 5 = .ok (.iload_n 2, 1) := by decide +kernel
theorem dX11_nextFall_6 : decode cX11_nextFall 6 = .ok (.iload_n 1, 1) := by decide +kernel
theorem dX11_nextFall_7 : decode cX11_nextFall 7 = .ok (.if_icmp .le 5, 3) := by decide +kernel
theorem dX11_spares_0 : decode cX11_spares 0 = .ok (.aload_n 0, 1) := by decide +kernel
theorem dX11_spares_1 : decode cX11_spares 1 = .ok (.aload_n 0, 1) := by decide +kernel
theorem dX11_spares_10 : decode cX11_spares 10 = .ok (.iload_n 2, 1) := by decide +kernel
theorem dX11_spares_11 : decode cX11_spares 11 = .ok (.i2l, 1) := by decide +kernel
theorem dX11_spares_12 : decode cX11_spares 12 = .ok (.invokevirtual 286, 3) := by decide +kernel
theorem dX11_spares_15 : decode cX11_spares 15 = .ok (.ifCond .eq 7, 3) := by decide +kernel
theorem dX11_spares_18 : decode cX11_spares 18 = .ok (.iconst 0, 1) := by decide +kernel
theorem dX11_spares_19 : decode cX11_spares 19 = .ok (.goto 4, 3) := by decide +kernel
theorem dX11_spares_2 : decode cX11_spares 2 = .ok (.iload_n 1, 1) := by decide +kernel
theorem dX11_spares_22 : decode cX11_spares 22 = .ok (.iconst 1, 1) := by decide +kernel
theorem dX11_spares_23 : decode cX11_spares 23 = .ok (.putfield 70, 3) := by decide +kernel
theorem dX11_spares_26 : decode cX11_spares 26 = .ok (.aload_n 0, 1) := by decide +kernel
theorem dX11_spares_27 : decode cX11_spares 27 = .ok (.getfield 70, 3) := by decide +kernel
theorem dX11_spares_3 : decode cX11_spares 3 = .ok (.invokevirtual 368, 3) := by decide +kernel
theorem dX11_spares_30 : decode cX11_spares 30 = .ok (.ifCond .le 5, 3) := by decide +kernel
theorem dX11_spares_33 : decode cX11_spares 33 = .ok (.iconst 0, 1) := by decide +kernel
theorem dX11_spares_34 : decode cX11_spares 34 = .ok (.ireturn, 1) := by decide +kernel
theorem dX11_spares_35 : decode cX11_spares 35 = .ok (.aload_n 0, 1) := by decide +kernel
theorem dX11_spares_36 : decode cX11_spares 36 = .ok (.invokevirtual 425, 3) := by decide +kernel
theorem dX11_spares_39 : decode cX11_spares 39 = .ok (.aload_n 0, 1) := by decide +kernel
theorem dX11_spares_40 : decode cX11_spares 40 = .ok (.iload_n 1, 1) := by decide +kernel
theorem dX11_spares_41 : decode cX11_spares 41 = .ok (.invokevirtual 465, 3) := by decide +kernel
theorem dX11_spares_44 : decode cX11_spares 44 = .ok (.istore_n 3, 1) := by decide +kernel
theorem dX11_spares_45 : decode cX11_spares 45 = .ok (.aload_n 0, 1) := by decide +kernel
theorem dX11_spares_46 : decode cX11_spares 46 = .ok (.invokevirtual 440, 3) := by decide +kernel
theorem dX11_spares_49 : decode cX11_spares 49 = .ok (.iconst 0, 1) := by decide +kernel
theorem dX11_spares_50 : decode cX11_spares 50 = .ok (.istore 4, 2) := by decide +kernel
theorem dX11_spares_52 : decode cX11_spares 52 = .ok (.iload 4, 2) := by decide +kernel
theorem dX11_spares_54 : decode cX11_spares 54 = .ok (.aload_n 0, 1) := by decide +kernel
theorem dX11_spares_55 : decode cX11_spares 55 = .ok (.invokevirtual 280, 3) := by decide +kernel
theorem dX11_spares_58 : decode cX11_spares 58 = .ok (.if_icmp .ge 25, 3) := by decide +kernel
theorem dX11_spares_6 : decode cX11_spares 6 = .ok (.ifCond .eq 16, 3) := by decide +kernel
theorem dX11_spares_61 : decode cX11_spares 61 = .ok (.aload_n 0, 1) := by decide +kernel
theorem dX11_spares_62 : decode cX11_spares 62 = .ok (.iload 4, 2) := by decide +kernel
theorem dX11_spares_64 : decode cX11_spares 64 = .ok (.iload_n 2, 1) := by decide +kernel
theorem dX11_spares_65 : decode cX11_spares 65 = .ok (.invokevirtual 320, 3) := by decide +kernel
theorem dX11_spares_68 : decode cX11_spares 68 = .ok (.ifCond .eq 9, 3) := by decide +kernel
theorem dX11_spares_71 : decode cX11_spares 71 = .ok (.aload_n 0, 1) := by decide +kernel
theorem dX11_spares_72 : decode cX11_spares 72 = .ok (.iload 4, 2) := by decide +kernel
theorem dX11_spares_74 : decode cX11_spares 74 = .ok (.invokevirtual 393, 3) := by decide +kernel
theorem dX11_spares_77 : decode cX11_spares 77 = .ok (.iinc 4 1, 3) := by decide +kernel
theorem dX11_spares_80 : decode cX11_spares 80 = .ok (.goto (-28), 3) := by decide +kernel
theorem dX11_spares_83 : decode cX11_spares 83 = .ok (.iload_n 3, 1) := by decide +kernel
theorem dX11_spares_84 : decode cX11_spares 84 = .ok (.aload_n 0, 1) := by decide +kernel
theorem dX11_spares_85 : decode cX11_spares 85 = .ok (.iload_n 1, 1) := by decide +kernel
theorem dX11_spares_86 : decode cX11_spares 86 = .ok (.invokevirtual 465, 3) := by decide +kernel
theorem dX11_spares_89 : decode cX11_spares 89 = .ok (.isub, 1) := by decide +kernel
theorem dX11_spares_9 : decode cX11_spares 9 = .ok (.aload_n 0, 1) := by decide +kernel
theorem dX11_spares_90 : decode cX11_spares 90 = .ok (.istore_n 3, 1) := by decide +kernel
theorem dX11_spares_91 : decode cX11_spares 91 = .ok (.aload_n 0, 1) := by decide +kernel
theorem dX11_spares_92 : decode cX11_spares 92 = .ok (.invokevirtual 440, 3) := by decide +kernel
theorem dX11_spares_95 : decode cX11_spares 95 = .ok (.iload_n 3, 1) := by decide +kernel
theorem dX11_spares_96 : decode cX11_spares 96 = .ok (.ireturn, 1) := by decide +kernel
