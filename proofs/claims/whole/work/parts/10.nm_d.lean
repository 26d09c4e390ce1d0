theorem dX11_falls_7 : decode cX11_falls 7 = .ok (.i2l, 1) := by decide +kernel
theorem dX11_falls_8 : decode cX11_falls 8 = .ok (.invokevirtual 363, 3) := by decide +kernel
theorem dX11_falls_11 : decode cX11_falls 11 = .ok (.ifCond .ne 9, 3) := by decide +kernel
theorem dX11_falls_14 : decode cX11_falls 14 = .ok (.aload_n 0, 1) := by decide +kernel
theorem dX11_falls_15 : decode cX11_falls 15 = .ok (.iconst 1, 1) := by decide +kernel
theorem dX11_falls_16 : decode cX11_falls 16 = .ok (.invokevirtual 269, 3) := by decide +kernel
theorem dX11_falls_19 : decode cX11_falls 19 = .ok (.ireturn, 1) := by decide +kernel
theorem dX11_falls_20 : decode cX11_falls 20 = .ok (.aload_n 0, 1) := by decide +kernel
theorem dX11_falls_21 : decode cX11_falls 21 = .ok (.iload_n 1, 1) := by decide +kernel
theorem dX11_falls_22 : decode cX11_falls 22 = .ok (.invokevirtual 452, 3) := by decide +kernel
theorem dX11_falls_25 : decode cX11_falls 25 = .ok (.ireturn, 1) := by decide +kernel
theorem dX11_fallsIn_0 : decode cX11_fallsIn 0 = .ok (.aload_n 0, 1) := by decide +kernel
theorem dX11_fallsIn_1 : decode cX11_fallsIn 1 = .ok (.iload_n 1, 1) := by decide +kernel
theorem dX11_fallsIn_2 : decode cX11_fallsIn 2 = .ok (.iconst 1, 1) := by decide +kernel
theorem dX11_fallsIn_3 : decode cX11_fallsIn 3 = .ok (.invokevirtual 283, 3) := by decide +kernel
theorem dX11_fallsIn_6 : decode cX11_fallsIn 6 = .ok (.ifCond .ne 5, 3) := by decide +kernel
theorem dX11_fallsIn_9 : decode cX11_fallsIn 9 = .ok (.iconst (-1), 1) := by decide +kernel
theorem dX11_fallsIn_10 : decode cX11_fallsIn 10 = .ok (.ireturn, 1) := by decide +kernel
theorem dX11_fallsIn_11 : decode cX11_fallsIn 11 = .ok (.aload_n 0, 1) := by decide +kernel
theorem dX11_fallsIn_12 : decode cX11_fallsIn 12 = .ok (.invokevirtual 425, 3) := by decide +kernel
theorem dX11_fallsIn_15 : decode cX11_fallsIn 15 = .ok (.aload_n 0, 1) := by decide +kernel
theorem dX11_fallsIn_16 : decode cX11_fallsIn 16 = .ok (.iload_n 1, 1) := by decide +kernel
theorem dX11_fallsIn_17 : decode cX11_fallsIn 17 = .ok (.iconst 1, 1) := by decide +kernel
theorem dX11_fallsIn_18 : decode cX11_fallsIn 18 = .ok (.invokevirtual 283, 3) := by decide +kernel
theorem dX11_fallsIn_21 : decode cX11_fallsIn 21 = .ok (.ifCond .eq 14, 3) := by decide +kernel
theorem dX11_fallsIn_24 : decode cX11_fallsIn 24 = .ok (.aload_n 0, 1) := by decide +kernel
theorem dX11_fallsIn_25 : decode cX11_fallsIn 25 = .ok (.aload_n 0, 1) := by decide +kernel
theorem dX11_fallsIn_26 : decode cX11_fallsIn 26 = .ok (.invokevirtual 455, 3) := by decide +kernel
theorem dX11_fallsIn_29 : decode cX11_fallsIn 29 = .ok (.invokevirtual 355, 3) := by decide +kernel
theorem dX11_fallsIn_32 : decode cX11_fallsIn 32 = .ok (.goto (-17), 3) := by decide +kernel
theorem dX11_fallsIn_35 : decode cX11_fallsIn 35 = .ok (.aload_n 0, 1) := by decide +kernel
theorem dX11_fallsIn_36 : decode cX11_fallsIn 36 = .ok (.getfield 9, 3) := by decide +kernel
theorem dX11_fallsIn_39 : decode cX11_fallsIn 39 = .ok (.bipush 24, 2) := by decide +kernel
theorem dX11_fallsIn_41 : decode cX11_fallsIn 41 = .ok (.iload_n 1, 1) := by decide +kernel
theorem dX11_fallsIn_42 : decode cX11_fallsIn 42 = .ok (.iadd, 1) := by decide +kernel
theorem dX11_fallsIn_43 : decode cX11_fallsIn 43 = .ok (.iaload, 1) := by decide +kernel
theorem dX11_fallsIn_44 : decode cX11_fallsIn 44 = .ok (.istore_n 2, 1) := by decide +kernel
theorem dX11_fallsIn_45 : decode cX11_fallsIn 45 = .ok (.aload_n 0, 1) := by decide +kernel
theorem dX11_fallsIn_46 : decode cX11_fallsIn 46 = .ok (.getfield 9, 3) := by decide +kernel
theorem dX11_fallsIn_49 : decode cX11_fallsIn 49 = .ok (.bipush 40, 2) := by decide +kernel
theorem dX11_fallsIn_51 : decode cX11_fallsIn 51 = .ok (.iaload, 1) := by decide +kernel
theorem dX11_fallsIn_52 : decode cX11_fallsIn 52 = .ok (.istore_n 3, 1) := by decide +kernel
theorem dX11_fallsIn_53 : decode cX11_fallsIn 53 = .ok (.aload_n 0, 1) := by decide +kernel
theorem dX11_fallsIn_54 : decode cX11_fallsIn 54 = .ok (.invokevirtual 440, 3) := by decide +kernel
theorem dX11_fallsIn_57 : decode cX11_fallsIn 57 = .ok (.aload_n 0, 1) := by decide +kernel
theorem dX11_fallsIn_58 : decode cX11_fallsIn 58 = .ok (.iload_n 2, 1) := by decide +kernel
theorem dX11_fallsIn_59 : decode cX11_fallsIn 59 = .ok (.putfield 458, 3) := by decide +kernel
theorem dX11_fallsIn_62 : decode cX11_fallsIn 62 = .ok (.iload_n 3, 1) := by decide +kernel
theorem dX11_fallsIn_63 : decode cX11_fallsIn 63 = .ok (.aload_n 0, 1) := by decide +kernel
theorem dX11_fallsIn_64 : decode cX11_fallsIn 64 = .ok (.getfield 9, 3) := by decide +kernel
theorem dX11_fallsIn_67 : decode cX11_fallsIn 67 = .ok (.bipush 40, 2) := by decide +kernel
theorem dX11_fallsIn_69 : decode cX11_fallsIn 69 = .ok (.iaload, 1) := by decide +kernel
theorem dX11_fallsIn_70 : decode cX11_fallsIn 70 = .ok (.isub, 1) := by decide +kernel
theorem dX11_fallsIn_71 : decode cX11_fallsIn 71 = .ok (.ireturn, 1) := by decide +kernel
theorem dX11_lands_0 : decode cX11_lands 0 = .ok (.aload_n 0, 1) := by decide +kernel
theorem dX11_lands_1 : decode cX11_lands 1 = .ok (.iconst 0, 1) := by decide +kernel
theorem dX11_lands_2 : decode cX11_lands 2 = .ok (.putfield 70, 3) := by decide +kernel
theorem dX11_lands_5 : decode cX11_lands 5 = .ok (.aload_n 0, 1) := by decide +kernel
theorem dX11_lands_6 : decode cX11_lands 6 = .ok (.iload_n 1, 1) := by decide +kernel
theorem dX11_lands_7 : decode cX11_lands 7 = .ok (.i2l, 1) := by decide +kernel
theorem dX11_lands_8 : decode cX11_lands 8 = .ok (.invokevirtual 363, 3) := by decide +kernel
theorem dX11_lands_11 : decode cX11_lands 11 = .ok (.ifCond .ne 9, 3) := by decide +kernel
theorem dX11_lands_14 : decode cX11_lands 14 = .ok (.aload_n 0, 1) := by decide +kernel
theorem dX11_lands_15 : decode cX11_lands 15 = .ok (.iconst 1, 1) := by decide +kernel
theorem dX11_lands_16 : decode cX11_lands 16 = .ok (.invokevirtual 269, 3) := by decide +kernel
theorem dX11_lands_19 : decode cX11_lands 19 = .ok (.ireturn, 1) := by decide +kernel
theorem dX11_lands_20 : decode cX11_lands 20 = .ok (.aload_n 0, 1) := by decide +kernel
theorem dX11_lands_21 : decode cX11_lands 21 = .ok (.iload_n 1, 1) := by decide +kernel
theorem dX11_lands_22 : decode cX11_lands 22 = .ok (.invokevirtual 452, 3) := by decide +kernel
theorem dX11_lands_25 : decode cX11_lands 25 = .ok (.iconst (-1), 1) := by decide +kernel
theorem dX11_lands_26 : decode cX11_lands 26 = .ok (.if_icmp .ne 7, 3) := by decide +kernel
theorem dX11_lands_29 : decode cX11_lands 29 = .ok (.iconst (-1), 1) := by decide +kernel
theorem dX11_lands_30 : decode cX11_lands 30 = .ok (.goto 7, 3) := by decide +kernel
theorem dX11_lands_33 : decode cX11_lands 33 = .ok (.aload_n 0, 1) := by decide +kernel
theorem dX11_lands_34 : decode cX11_lands 34 = .ok (.getfield 458, 3) := by decide +kernel
theorem dX11_lands_37 : decode cX11_lands 37 = .ok (.ireturn, 1) := by decide +kernel
theorem dX11_nextFall_0 : decode cX11_nextFall 0 = .ok (.aload_n 0, 1) := by decide +kernel
theorem dX11_nextFall_1 : decode cX11_nextFall 1 = .ok (.invokevirtual 455, 3) := by decide +kernel
theorem dX11_nextFall_4 : decode cX11_nextFall 4 = .ok (.istore_n 2, 1) := by decide +kernel
theorem dX11_nextFall_5 : decode cX11_nextFall 5 = .ok (.iload_n 2, 1) := by decide +kernel
theorem dX11_nextFall_6 : decode cX11_nextFall 6 = .ok (.iload_n 1, 1) := by decide +kernel
theorem dX11_nextFall_7 : decode cX11_nextFall 7 = .ok (.if_icmp .le 5, 3) := by decide +kernel
theorem dX11_nextFall_10 : decode cX11_nextFall 10 = .ok (.iconst 0, 1) := by decide +kernel
theorem dX11_nextFall_11 : decode cX11_nextFall 11 = .ok (.ireturn, 1) := by decide +kernel
theorem dX11_nextFall_12 : decode cX11_nextFall 12 = .ok (.aload_n 0, 1) := by decide +kernel
theorem dX11_nextFall_13 : decode cX11_nextFall 13 = .ok (.iload_n 2, 1) := by decide +kernel
theorem dX11_nextFall_14 : decode cX11_nextFall 14 = .ok (.invokevirtual 355, 3) := by decide +kernel
theorem dX11_nextFall_17 : decode cX11_nextFall 17 = .ok (.iconst 1, 1) := by decide +kernel
theorem dX11_nextFall_18 : decode cX11_nextFall 18 = .ok (.ireturn, 1) := by decide +kernel
theorem dX11_fallIn_0 : decode cX11_fallIn 0 = .ok (.aload_n 0, 1) := by decide +kernel
theorem dX11_fallIn_1 : decode cX11_fallIn 1 = .ok (.iconst 0, 1) := by decide +kernel
theorem dX11_fallIn_2 : decode cX11_fallIn 2 = .ok (.putfield 70, 3) := by decide +kernel
theorem dX11_fallIn_5 : decode cX11_fallIn 5 = .ok (.iload_n 1, 1) := by decide +kernel
theorem dX11_fallIn_6 : decode cX11_fallIn 6 = .ok (.i2l, 1) := by decide +kernel
theorem dX11_fallIn_7 : decode cX11_fallIn 7 = .ok (.lconst 1, 1) := by decide +kernel
theorem dX11_fallIn_8 : decode cX11_fallIn 8 = .ok (.ldc2_w 377, 3) := by decide +kernel
theorem dX11_fallIn_11 : decode cX11_fallIn 11 = .ok (.invokestatic 131, 3) := by decide +kernel
theorem dX11_fallIn_14 : decode cX11_fallIn 14 = .ok (.ifCond .ne 9, 3) := by decide +kernel
theorem dX11_fallIn_17 : decode cX11_fallIn 17 = .ok (.aload_n 0, 1) := by decide +kernel
theorem dX11_fallIn_18 : decode cX11_fallIn 18 = .ok (.iconst 1, 1) := by decide +kernel
theorem dX11_fallIn_19 : decode cX11_fallIn 19 = .ok (.invokevirtual 269, 3) := by decide +kernel
theorem dX11_fallIn_22 : decode cX11_fallIn 22 = .ok (.ireturn, 1) := by decide +kernel
theorem dX11_fallIn_23 : decode cX11_fallIn 23 = .ok (.aload_n 0, 1) := by decide +kernel
theorem dX11_fallIn_24 : decode cX11_fallIn 24 = .ok (.invokevirtual 425, 3) := by decide +kernel
theorem dX11_fallIn_27 : decode cX11_fallIn 27 = .ok (.aload_n 0, 1) := by decide +kernel
theorem dX11_fallIn_28 : decode cX11_fallIn 28 = .ok (.getfield 9, 3) := by decide +kernel
theorem dX11_fallIn_31 : decode cX11_fallIn 31 = .ok (.bipush 40, 2) := by decide +kernel
theorem dX11_fallIn_33 : decode cX11_fallIn 33 = .ok (.iaload, 1) := by decide +kernel
theorem dX11_fallIn_34 : decode cX11_fallIn 34 = .ok (.iload_n 1, 1) := by decide +kernel
theorem dX11_fallIn_35 : decode cX11_fallIn 35 = .ok (.iadd, 1) := by decide +kernel
theorem dX11_fallIn_36 : decode cX11_fallIn 36 = .ok (.istore_n 2, 1) := by decide +kernel
theorem dX11_fallIn_37 : decode cX11_fallIn 37 = .ok (.iconst 0, 1) := by decide +kernel
theorem dX11_fallIn_38 : decode cX11_fallIn 38 = .ok (.istore_n 3, 1) := by decide +kernel
theorem dX11_fallIn_39 : decode cX11_fallIn 39 = .ok (.aload_n 0, 1) := by decide +kernel
theorem dX11_fallIn_40 : decode cX11_fallIn 40 = .ok (.iload_n 2, 1) := by decide +kernel
theorem dX11_fallIn_41 : decode cX11_fallIn 41 = .ok (.invokevirtual 461, 3) := by decide +kernel
theorem dX11_fallIn_44 : decode cX11_fallIn 44 = .ok (.ifCond .eq 26, 3) := by decide +kernel
theorem dX11_fallIn_47 : decode cX11_fallIn 47 = .ok (.aload_n 0, 1) := by decide +kernel
theorem dX11_fallIn_48 : decode cX11_fallIn 48 = .ok (.getfield 9, 3) := by decide +kernel
theorem dX11_fallIn_51 : decode cX11_fallIn 51 = .ok (.bipush 40, 2) := by decide +kernel
theorem dX11_fallIn_53 : decode cX11_fallIn 53 = .ok (.iaload, 1) := by decide +kernel
theorem dX11_fallIn_54 : decode cX11_fallIn 54 = .ok (.iload_n 2, 1) := by decide +kernel
theorem dX11_fallIn_55 : decode cX11_fallIn 55 = .ok (.if_icmp .ne 10, 3) := by decide +kernel
theorem dX11_fallIn_58 : decode cX11_fallIn 58 = .ok (.aload_n 0, 1) := by decide +kernel
theorem dX11_fallIn_59 : decode cX11_fallIn 59 = .ok (.getfield 339, 3) := by decide +kernel
theorem dX11_fallIn_62 : decode cX11_fallIn 62 = .ok (.goto 4, 3) := by decide +kernel
theorem dX11_fallIn_65 : decode cX11_fallIn 65 = .ok (.iconst 0, 1) := by decide +kernel
theorem dX11_fallIn_66 : decode cX11_fallIn 66 = .ok (.istore_n 3, 1) := by decide +kernel
theorem dX11_fallIn_67 : decode cX11_fallIn 67 = .ok (.goto (-28), 3) := by decide +kernel
theorem dX11_fallIn_70 : decode cX11_fallIn 70 = .ok (.aload_n 0, 1) := by decide +kernel
theorem dX11_fallIn_71 : decode cX11_fallIn 71 = .ok (.invokevirtual 440, 3) := by decide +kernel
theorem dX11_fallIn_74 : decode cX11_fallIn 74 = .ok (.iload_n 3, 1) := by decide +kernel
theorem dX11_fallIn_75 : decode cX11_fallIn 75 = .ok (.ireturn, 1) := by decide +kernel
theorem dX11_next_0 : decode cX11_next 0 = .ok (.aload_n 0, 1) := by decide +kernel
theorem dX11_next_1 : decode cX11_next 1 = .ok (.iconst 0, 1) := by decide +kernel
theorem dX11_next_2 : decode cX11_next 2 = .ok (.putfield 70, 3) := by decide +kernel
theorem dX11_next_5 : decode cX11_next 5 = .ok (.aload_n 0, 1) := by decide +kernel
theorem dX11_next_6 : decode cX11_next 6 = .ok (.invokevirtual 455, 3) := by decide +kernel
theorem dX11_next_9 : decode cX11_next 9 = .ok (.istore_n 1, 1) := by decide +kernel
theorem dX11_next_10 : decode cX11_next 10 = .ok (.iload_n 1, 1) := by decide +kernel
theorem dX11_next_11 : decode cX11_next 11 = .ok (.ldc_w 358, 3) := by decide +kernel
theorem dX11_next_14 : decode cX11_next 14 = .ok (.if_icmp .ne 7, 3) := by decide +kernel
theorem dX11_next_17 : decode cX11_next 17 = .ok (.iconst (-1), 1) := by decide +kernel
theorem dX11_next_18 : decode cX11_next 18 = .ok (.goto 12, 3) := by decide +kernel
theorem dX11_next_21 : decode cX11_next 21 = .ok (.iload_n 1, 1) := by decide +kernel
theorem dX11_next_22 : decode cX11_next 22 = .ok (.aload_n 0, 1) := by decide +kernel
theorem dX11_next_23 : decode cX11_next 23 = .ok (.getfield 9, 3) := by decide +kernel
theorem dX11_next_26 : decode cX11_next 26 = .ok (.bipush 40, 2) := by decide +kernel
theorem dX11_next_28 : decode cX11_next 28 = .ok (.iaload, 1) := by decide +kernel
theorem dX11_next_29 : decode cX11_next 29 = .ok (.isub, 1) := by decide +kernel
theorem dX11_next_30 : decode cX11_next 30 = .ok (.ireturn, 1) := by decide +kernel
theorem dX11_busiest_0 : decode cX11_busiest 0 = .ok (.aload_n 0, 1) := by decide +kernel
theorem dX11_busiest_1 : decode cX11_busiest 1 = .ok (.iconst 0, 1) := by decide +kernel
theorem dX11_busiest_2 : decode cX11_busiest 2 = .ok (.putfield 70, 3) := by decide +kernel
theorem dX11_busiest_5 : decode cX11_busiest 5 = .ok (.aload_n 0, 1) := by decide +kernel
theorem dX11_busiest_6 : decode cX11_busiest 6 = .ok (.invokevirtual 425, 3) := by decide +kernel
theorem dX11_busiest_9 : decode cX11_busiest 9 = .ok (.iconst (-1), 1) := by decide +kernel
theorem dX11_busiest_10 : decode cX11_busiest 10 = .ok (.istore_n 1, 1) := by decide +kernel
theorem dX11_busiest_11 : decode cX11_busiest 11 = .ok (.iconst 0, 1) := by decide +kernel
theorem dX11_busiest_12 : decode cX11_busiest 12 = .ok (.istore_n 2, 1) := by decide +kernel
theorem dX11_busiest_13 : decode cX11_busiest 13 = .ok (.aload_n 0, 1) := by decide +kernel
theorem dX11_busiest_14 : decode cX11_busiest 14 = .ok (.ldc_w 464, 3) := by decide +kernel
theorem dX11_busiest_17 : decode cX11_busiest 17 = .ok (.invokevirtual 461, 3) := by decide +kernel
theorem dX11_busiest_20 : decode cX11_busiest 20 = .ok (.ifCond .eq 36, 3) := by decide +kernel
theorem dX11_busiest_23 : decode cX11_busiest 23 = .ok (.aload_n 0, 1) := by decide +kernel
theorem dX11_busiest_24 : decode cX11_busiest 24 = .ok (.getfield 339, 3) := by decide +kernel
theorem dX11_busiest_27 : decode cX11_busiest 27 = .ok (.invokestatic 330, 3) := by decide +kernel
theorem dX11_busiest_30 : decode cX11_busiest 30 = .ok (.iload_n 2, 1) := by decide +kernel
theorem dX11_busiest_31 : decode cX11_busiest 31 = .ok (.if_icmp .gt 6, 3) := by decide +kernel
theorem dX11_busiest_34 : decode cX11_busiest 34 = .ok (.goto (-21), 3) := by decide +kernel
theorem dX11_busiest_37 : decode cX11_busiest 37 = .ok (.aload_n 0, 1) := by decide +kernel
theorem dX11_busiest_38 : decode cX11_busiest 38 = .ok (.getfield 339, 3) := by decide +kernel
theorem dX11_busiest_41 : decode cX11_busiest 41 = .ok (.invokestatic 330, 3) := by decide +kernel
theorem dX11_busiest_44 : decode cX11_busiest 44 = .ok (.istore_n 2, 1) := by decide +kernel
theorem dX11_busiest_45 : decode cX11_busiest 45 = .ok (.aload_n 0, 1) := by decide +kernel
theorem dX11_busiest_46 : decode cX11_busiest 46 = .ok (.getfield 9, 3) := by decide +kernel
theorem dX11_busiest_49 : decode cX11_busiest 49 = .ok (.bipush 40, 2) := by decide +kernel
theorem dX11_busiest_51 : decode cX11_busiest 51 = .ok (.iaload, 1) := by decide +kernel
theorem dX11_busiest_52 : decode cX11_busiest 52 = .ok (.istore_n 1, 1) := by decide +kernel
theorem dX11_busiest_53 : decode cX11_busiest 53 = .ok (.goto (-40), 3) := by decide +kernel
theorem dX11_busiest_56 : decode cX11_busiest 56 = .ok (.aload_n 0, 1) := by decide +kernel
theorem dX11_busiest_57 : decode cX11_busiest 57 = .ok (.invokevirtual 440, 3) := by decide +kernel
theorem dX11_busiest_60 : decode cX11_busiest 60 = .ok (.iload_n 1, 1) := by decide +kernel
theorem dX11_busiest_61 : decode cX11_busiest 61 = .ok (.iconst (-1), 1) := by decide +kernel
theorem dX11_busiest_62 : decode cX11_busiest 62 = .ok (.if_icmp .ne 7, 3) := by decide +kernel
theorem dX11_busiest_65 : decode cX11_busiest 65 = .ok (.iconst (-1), 1) := by decide +kernel
theorem dX11_busiest_66 : decode cX11_busiest 66 = .ok (.goto 12, 3) := by decide +kernel
theorem dX11_busiest_69 : decode cX11_busiest 69 = .ok (.iload_n 1, 1) := by decide +kernel
theorem dX11_busiest_70 : decode cX11_busiest 70 = .ok (.aload_n 0, 1) := by decide +kernel
theorem dX11_busiest_71 : decode cX11_busiest 71 = .ok (.getfield 9, 3) := by decide +kernel
theorem dX11_busiest_74 : decode cX11_busiest 74 = .ok (.bipush 40, 2) := by decide +kernel
theorem dX11_busiest_76 : decode cX11_busiest 76 = .ok (.iaload, 1) := by decide +kernel
theorem dX11_busiest_77 : decode cX11_busiest 77 = .ok (.isub, 1) := by decide +kernel
theorem dX11_busiest_78 : decode cX11_busiest 78 = .ok (.ireturn, 1) := by decide +kernel
theorem dX11_frees_0 : decode cX11_frees 0 = .ok (.aload_n 0, 1) := by decide +kernel
theorem dX11_frees_1 : decode cX11_frees 1 = .ok (.aload_n 0, 1) := by decide +kernel
theorem dX11_frees_2 : decode cX11_frees 2 = .ok (.iload_n 1, 1) := by decide +kernel
theorem dX11_frees_3 : decode cX11_frees 3 = .ok (.i2l, 1) := by decide +kernel
theorem dX11_frees_4 : decode cX11_frees 4 = .ok (.invokevirtual 363, 3) := by decide +kernel
theorem dX11_frees_7 : decode cX11_frees 7 = .ok (.ifCond .ne 7, 3) := by decide +kernel
theorem dX11_frees_10 : decode cX11_frees 10 = .ok (.iconst 1, 1) := by decide +kernel
theorem dX11_frees_11 : decode cX11_frees 11 = .ok (.goto 17, 3) := by decide +kernel
theorem dX11_frees_14 : decode cX11_frees 14 = .ok (.aload_n 0, 1) := by decide +kernel
theorem dX11_frees_15 : decode cX11_frees 15 = .ok (.iload_n 1, 1) := by decide +kernel
theorem dX11_frees_16 : decode cX11_frees 16 = .ok (.iconst 1, 1) := by decide +kernel
theorem dX11_frees_17 : decode cX11_frees 17 = .ok (.invokevirtual 283, 3) := by decide +kernel
theorem dX11_frees_20 : decode cX11_frees 20 = .ok (.ifCond .eq 7, 3) := by decide +kernel
theorem dX11_frees_23 : decode cX11_frees 23 = .ok (.iconst 0, 1) := by decide +kernel
theorem dX11_frees_24 : decode cX11_frees 24 = .ok (.goto 4, 3) := by decide +kernel
theorem dX11_frees_27 : decode cX11_frees 27 = .ok (.iconst 2, 1) := by decide +kernel
theorem dX11_frees_28 : decode cX11_frees 28 = .ok (.putfield 70, 3) := by decide +kernel
theorem dX11_frees_31 : decode cX11_frees 31 = .ok (.aload_n 0, 1) := by decide +kernel
theorem dX11_frees_32 : decode cX11_frees 32 = .ok (.getfield 70, 3) := by decide +kernel
theorem dX11_frees_35 : decode cX11_frees 35 = .ok (.ifCond .le 7, 3) := by decide +kernel
theorem dX11_frees_38 : decode cX11_frees 38 = .ok (.iconst 0, 1) := by decide +kernel
theorem dX11_frees_39 : decode cX11_frees 39 = .ok (.goto 25, 3) := by decide +kernel
theorem dX11_frees_42 : decode cX11_frees 42 = .ok (.aload_n 0, 1) := by decide +kernel
theorem dX11_frees_43 : decode cX11_frees 43 = .ok (.aload_n 0, 1) := by decide +kernel
theorem dX11_frees_44 : decode cX11_frees 44 = .ok (.getfield 9, 3) := by decide +kernel
theorem dX11_frees_47 : decode cX11_frees 47 = .ok (.bipush 16, 2) := by decide +kernel
theorem dX11_frees_49 : decode cX11_frees 49 = .ok (.iload_n 1, 1) := by decide +kernel
theorem dX11_frees_50 : decode cX11_frees 50 = .ok (.iadd, 1) := by decide +kernel
theorem dX11_frees_51 : decode cX11_frees 51 = .ok (.iaload, 1) := by decide +kernel
theorem dX11_frees_52 : decode cX11_frees 52 = .ok (.iconst 1, 1) := by decide +kernel
theorem dX11_frees_53 : decode cX11_frees 53 = .ok (.iload_n 1, 1) := by decide +kernel
theorem dX11_frees_54 : decode cX11_frees 54 = .ok (.ishl, 1) := by decide +kernel
theorem dX11_frees_55 : decode cX11_frees 55 = .ok (.invokevirtual 336, 3) := by decide +kernel
theorem dX11_frees_58 : decode cX11_frees 58 = .ok (.iconst 1, 1) := by decide +kernel
theorem dX11_frees_59 : decode cX11_frees 59 = .ok (.iload_n 1, 1) := by decide +kernel
theorem dX11_frees_60 : decode cX11_frees 60 = .ok (.ishl, 1) := by decide +kernel
theorem dX11_frees_61 : decode cX11_frees 61 = .ok (.iconst (-1), 1) := by decide +kernel
theorem dX11_frees_62 : decode cX11_frees 62 = .ok (.ixor, 1) := by decide +kernel
theorem dX11_frees_63 : decode cX11_frees 63 = .ok (.iand, 1) := by decide +kernel
theorem dX11_frees_64 : decode cX11_frees 64 = .ok (.ireturn, 1) := by decide +kernel
theorem dX11_heightIn_0 : decode cX11_heightIn 0 = .ok (.aload_n 0, 1) := by decide +kernel
theorem dX11_heightIn_1 : decode cX11_heightIn 1 = .ok (.aload_n 0, 1) := by decide +kernel
theorem dX11_heightIn_2 : decode cX11_heightIn 2 = .ok (.iload_n 1, 1) := by decide +kernel
theorem dX11_heightIn_3 : decode cX11_heightIn 3 = .ok (.i2l, 1) := by decide +kernel
theorem dX11_heightIn_4 : decode cX11_heightIn 4 = .ok (.invokevirtual 286, 3) := by decide +kernel
theorem dX11_heightIn_7 : decode cX11_heightIn 7 = .ok (.ifCond .ne 7, 3) := by decide +kernel
theorem dX11_heightIn_10 : decode cX11_heightIn 10 = .ok (.iconst 1, 1) := by decide +kernel
theorem dX11_heightIn_11 : decode cX11_heightIn 11 = .ok (.goto 20, 3) := by decide +kernel
theorem dX11_heightIn_14 : decode cX11_heightIn 14 = .ok (.iload_n 2, 1) := by decide +kernel
theorem dX11_heightIn_15 : decode cX11_heightIn 15 = .ok (.i2l, 1) := by decide +kernel
theorem dX11_heightIn_16 : decode cX11_heightIn 16 = .ok (.lconst 0, 1) := by decide +kernel
theorem dX11_heightIn_17 : decode cX11_heightIn 17 = .ok (.ldc2_w 377, 3) := by decide +kernel
theorem dX11_heightIn_20 : decode cX11_heightIn 20 = .ok (.invokestatic 131, 3) := by decide +kernel
theorem dX11_heightIn_23 : decode cX11_heightIn 23 = .ok (.ifCond .eq 7, 3) := by decide +kernel
theorem dX11_heightIn_26 : decode cX11_heightIn 26 = .ok (.iconst 0, 1) := by decide +kernel
theorem dX11_heightIn_27 : decode cX11_heightIn 27 = .ok (.goto 4, 3) := by decide +kernel
theorem dX11_heightIn_30 : decode cX11_heightIn 30 = .ok (.iconst 2, 1) := by decide +kernel
theorem dX11_heightIn_31 : decode cX11_heightIn 31 = .ok (.putfield 70, 3) := by decide +kernel
theorem dX11_heightIn_34 : decode cX11_heightIn 34 = .ok (.aload_n 0, 1) := by decide +kernel
theorem dX11_heightIn_35 : decode cX11_heightIn 35 = .ok (.getfield 70, 3) := by decide +kernel
theorem dX11_heightIn_38 : decode cX11_heightIn 38 = .ok (.ifCond .le 5, 3) := by decide +kernel
theorem dX11_heightIn_41 : decode cX11_heightIn 41 = .ok (.iconst 0, 1) := by decide +kernel
theorem dX11_heightIn_42 : decode cX11_heightIn 42 = .ok (.ireturn, 1) := by decide +kernel
theorem dX11_heightIn_43 : decode cX11_heightIn 43 = .ok (.aload_n 0, 1) := by decide +kernel
theorem dX11_heightIn_44 : decode cX11_heightIn 44 = .ok (.invokevirtual 425, 3) := by decide +kernel
theorem dX11_heightIn_47 : decode cX11_heightIn 47 = .ok (.aload_n 0, 1) := by decide +kernel
theorem dX11_heightIn_48 : decode cX11_heightIn 48 = .ok (.getfield 9, 3) := by decide +kernel
theorem dX11_heightIn_51 : decode cX11_heightIn 51 = .ok (.bipush 40, 2) := by decide +kernel
theorem dX11_heightIn_53 : decode cX11_heightIn 53 = .ok (.iaload, 1) := by decide +kernel
theorem dX11_heightIn_54 : decode cX11_heightIn 54 = .ok (.iload_n 2, 1) := by decide +kernel
theorem dX11_heightIn_55 : decode cX11_heightIn 55 = .ok (.iadd, 1) := by decide +kernel
theorem dX11_heightIn_56 : decode cX11_heightIn 56 = .ok (.istore_n 3, 1) := by decide +kernel
theorem dX11_heightIn_57 : decode cX11_heightIn 57 = .ok (.iload_n 2, 1) := by decide +kernel
theorem dX11_heightIn_58 : decode cX11_heightIn 58 = .ok (.ifCond .le 7, 3) := by decide +kernel
theorem dX11_heightIn_61 : decode cX11_heightIn 61 = .ok (.iconst 1, 1) := by decide +kernel
theorem dX11_heightIn_62 : decode cX11_heightIn 62 = .ok (.goto 4, 3) := by decide +kernel
theorem dX11_heightIn_65 : decode cX11_heightIn 65 = .ok (.iconst 0, 1) := by decide +kernel
theorem dX11_heightIn_66 : decode cX11_heightIn 66 = .ok (.istore 4, 2) := by decide +kernel
theorem dX11_heightIn_68 : decode cX11_heightIn 68 = .ok (.iload 4, 2) := by decide +kernel
theorem dX11_heightIn_70 : decode cX11_heightIn 70 = .ok (.ifCond .eq 13, 3) := by decide +kernel
theorem dX11_heightIn_73 : decode cX11_heightIn 73 = .ok (.aload_n 0, 1) := by decide +kernel
theorem dX11_heightIn_74 : decode cX11_heightIn 74 = .ok (.iload_n 3, 1) := by decide +kernel
theorem dX11_heightIn_75 : decode cX11_heightIn 75 = .ok (.invokevirtual 461, 3) := by decide +kernel
theorem dX11_heightIn_78 : decode cX11_heightIn 78 = .ok (.istore 4, 2) := by decide +kernel
theorem dX11_heightIn_80 : decode cX11_heightIn 80 = .ok (.goto (-12), 3) := by decide +kernel
theorem dX11_heightIn_83 : decode cX11_heightIn 83 = .ok (.aload_n 0, 1) := by decide +kernel
theorem dX11_heightIn_84 : decode cX11_heightIn 84 = .ok (.iload_n 1, 1) := by decide +kernel
theorem dX11_heightIn_85 : decode cX11_heightIn 85 = .ok (.invokevirtual 311, 3) := by decide +kernel
theorem dX11_heightIn_88 : decode cX11_heightIn 88 = .ok (.istore 5, 2) := by decide +kernel
theorem dX11_heightIn_90 : decode cX11_heightIn 90 = .ok (.aload_n 0, 1) := by decide +kernel
theorem dX11_heightIn_91 : decode cX11_heightIn 91 = .ok (.invokevirtual 440, 3) := by decide +kernel
theorem dX11_heightIn_94 : decode cX11_heightIn 94 = .ok (.iload 5, 2) := by decide +kernel
theorem dX11_heightIn_96 : decode cX11_heightIn 96 = .ok (.ireturn, 1) := by decide +kernel
theorem dX11_hurtIn_0 : decode cX11_hurtIn 0 = .ok (.aload_n 0, 1) := by decide +kernel
theorem dX11_hurtIn_1 : decode cX11_hurtIn 1 = .ok (.iconst 0, 1) := by decide +kernel
theorem dX11_hurtIn_2 : decode cX11_hurtIn 2 = .ok (.putfield 70, 3) := by decide +kernel
theorem dX11_hurtIn_5 : decode cX11_hurtIn 5 = .ok (.aload_n 0, 1) := by decide +kernel
theorem dX11_hurtIn_6 : decode cX11_hurtIn 6 = .ok (.iload_n 1, 1) := by decide +kernel
theorem dX11_hurtIn_7 : decode cX11_hurtIn 7 = .ok (.invokevirtual 368, 3) := by decide +kernel
theorem dX11_hurtIn_10 : decode cX11_hurtIn 10 = .ok (.ifCond .ne 9, 3) := by decide +kernel
theorem dX11_hurtIn_13 : decode cX11_hurtIn 13 = .ok (.aload_n 0, 1) := by decide +kernel
theorem dX11_hurtIn_14 : decode cX11_hurtIn 14 = .ok (.iconst 1, 1) := by decide +kernel
theorem dX11_hurtIn_15 : decode cX11_hurtIn 15 = .ok (.invokevirtual 269, 3) := by decide +kernel
theorem dX11_hurtIn_18 : decode cX11_hurtIn 18 = .ok (.ireturn, 1) := by decide +kernel
theorem dX11_hurtIn_19 : decode cX11_hurtIn 19 = .ok (.aload_n 0, 1) := by decide +kernel
theorem dX11_hurtIn_20 : decode cX11_hurtIn 20 = .ok (.invokevirtual 425, 3) := by decide +kernel
theorem dX11_hurtIn_23 : decode cX11_hurtIn 23 = .ok (.aload_n 0, 1) := by decide +kernel
theorem dX11_hurtIn_24 : decode cX11_hurtIn 24 = .ok (.getfield 9, 3) := by decide +kernel
theorem dX11_hurtIn_27 : decode cX11_hurtIn 27 = .ok (.bipush 41, 2) := by decide +kernel
theorem dX11_hurtIn_29 : decode cX11_hurtIn 29 = .ok (.iload_n 1, 1) := by decide +kernel
theorem dX11_hurtIn_30 : decode cX11_hurtIn 30 = .ok (.iadd, 1) := by decide +kernel
theorem dX11_hurtIn_31 : decode cX11_hurtIn 31 = .ok (.iaload, 1) := by decide +kernel
theorem dX11_hurtIn_32 : decode cX11_hurtIn 32 = .ok (.istore_n 2, 1) := by decide +kernel
theorem dX11_hurtIn_33 : decode cX11_hurtIn 33 = .ok (.iconst 1, 1) := by decide +kernel
theorem dX11_hurtIn_34 : decode cX11_hurtIn 34 = .ok (.istore_n 3, 1) := by decide +kernel
theorem dX11_hurtIn_35 : decode cX11_hurtIn 35 = .ok (.iload_n 3, 1) := by decide +kernel
theorem dX11_hurtIn_36 : decode cX11_hurtIn 36 = .ok (.ifCond .eq 27, 3) := by decide +kernel
theorem dX11_hurtIn_39 : decode cX11_hurtIn 39 = .ok (.aload_n 0, 1) := by decide +kernel
theorem dX11_hurtIn_40 : decode cX11_hurtIn 40 = .ok (.getfield 9, 3) := by decide +kernel
theorem dX11_hurtIn_43 : decode cX11_hurtIn 43 = .ok (.bipush 41, 2) := by decide +kernel
theorem dX11_hurtIn_45 : decode cX11_hurtIn 45 = .ok (.iload_n 1, 1) := by decide +kernel
theorem dX11_hurtIn_46 : decode cX11_hurtIn 46 = .ok (.iadd, 1) := by decide +kernel
theorem dX11_hurtIn_47 : decode cX11_hurtIn 47 = .ok (.iaload, 1) := by decide +kernel
theorem dX11_hurtIn_48 : decode cX11_hurtIn 48 = .ok (.iload_n 2, 1) := by decide +kernel
theorem dX11_hurtIn_49 : decode cX11_hurtIn 49 = .ok (.if_icmp .ne 14, 3) := by decide +kernel
theorem dX11_hurtIn_52 : decode cX11_hurtIn 52 = .ok (.aload_n 0, 1) := by decide +kernel
theorem dX11_hurtIn_53 : decode cX11_hurtIn 53 = .ok (.ldc_w 464, 3) := by decide +kernel
theorem dX11_hurtIn_56 : decode cX11_hurtIn 56 = .ok (.invokevirtual 461, 3) := by decide +kernel
theorem dX11_hurtIn_59 : decode cX11_hurtIn 59 = .ok (.istore_n 3, 1) := by decide +kernel
theorem dX11_hurtIn_60 : decode cX11_hurtIn 60 = .ok (.goto (-25), 3) := by decide +kernel
theorem dX11_hurtIn_63 : decode cX11_hurtIn 63 = .ok (.aload_n 0, 1) := by decide +kernel
theorem dX11_hurtIn_64 : decode cX11_hurtIn 64 = .ok (.getfield 9, 3) := by decide +kernel
theorem dX11_hurtIn_67 : decode cX11_hurtIn 67 = .ok (.bipush 40, 2) := by decide +kernel
theorem dX11_hurtIn_69 : decode cX11_hurtIn 69 = .ok (.iaload, 1) := by decide +kernel
theorem dX11_hurtIn_70 : decode cX11_hurtIn 70 = .ok (.istore 4, 2) := by decide +kernel
theorem dX11_hurtIn_72 : decode cX11_hurtIn 72 = .ok (.aload_n 0, 1) := by decide +kernel
theorem dX11_hurtIn_73 : decode cX11_hurtIn 73 = .ok (.invokevirtual 440, 3) := by decide +kernel
theorem dX11_hurtIn_76 : decode cX11_hurtIn 76 = .ok (.iload_n 3, 1) := by decide +kernel
theorem dX11_hurtIn_77 : decode cX11_hurtIn 77 = .ok (.ifCond .eq 16, 3) := by decide +kernel
theorem dX11_hurtIn_80 : decode cX11_hurtIn 80 = .ok (.iload 4, 2) := by decide +kernel
theorem dX11_hurtIn_82 : decode cX11_hurtIn 82 = .ok (.aload_n 0, 1) := by decide +kernel
theorem dX11_hurtIn_83 : decode cX11_hurtIn 83 = .ok (.getfield 9, 3) := by decide +kernel
theorem dX11_hurtIn_86 : decode cX11_hurtIn 86 = .ok (.bipush 40, 2) := by decide +kernel
theorem dX11_hurtIn_88 : decode cX11_hurtIn 88 = .ok (.iaload, 1) := by decide +kernel
theorem dX11_hurtIn_89 : decode cX11_hurtIn 89 = .ok (.isub, 1) := by decide +kernel
theorem dX11_hurtIn_90 : decode cX11_hurtIn 90 = .ok (.goto 4, 3) := by decide +kernel
theorem dX11_hurtIn_93 : decode cX11_hurtIn 93 = .ok (.iconst (-1), 1) := by decide +kernel
theorem dX11_hurtIn_94 : decode cX11_hurtIn 94 = .ok (.ireturn, 1) := by decide +kernel
theorem dX11_hurtsOf_0 : decode cX11_hurtsOf 0 = .ok (.aload_n 0, 1) := by decide +kernel
theorem dX11_hurtsOf_1 : decode cX11_hurtsOf 1 = .ok (.getfield 9, 3) := by decide +kernel
theorem dX11_hurtsOf_4 : decode cX11_hurtsOf 4 = .ok (.bipush 41, 2) := by decide +kernel
theorem dX11_hurtsOf_6 : decode cX11_hurtsOf 6 = .ok (.iload_n 1, 1) := by decide +kernel
theorem dX11_hurtsOf_7 : decode cX11_hurtsOf 7 = .ok (.iadd, 1) := by decide +kernel
theorem dX11_hurtsOf_8 : decode cX11_hurtsOf 8 = .ok (.iaload, 1) := by decide +kernel
theorem dX11_hurtsOf_9 : decode cX11_hurtsOf 9 = .ok (.istore_n 2, 1) := by decide +kernel
theorem dX11_hurtsOf_10 : decode cX11_hurtsOf 10 = .ok (.iconst 1, 1) := by decide +kernel
theorem dX11_hurtsOf_11 : decode cX11_hurtsOf 11 = .ok (.istore_n 3, 1) := by decide +kernel
theorem dX11_hurtsOf_12 : decode cX11_hurtsOf 12 = .ok (.iload_n 3, 1) := by decide +kernel
theorem dX11_hurtsOf_13 : decode cX11_hurtsOf 13 = .ok (.ifCond .eq 14, 3) := by decide +kernel
theorem dX11_hurtsOf_16 : decode cX11_hurtsOf 16 = .ok (.aload_n 0, 1) := by decide +kernel
theorem dX11_hurtsOf_17 : decode cX11_hurtsOf 17 = .ok (.ldc_w 464, 3) := by decide +kernel
theorem dX11_hurtsOf_20 : decode cX11_hurtsOf 20 = .ok (.invokevirtual 461, 3) := by decide +kernel
theorem dX11_hurtsOf_23 : decode cX11_hurtsOf 23 = .ok (.istore_n 3, 1) := by decide +kernel
theorem dX11_hurtsOf_24 : decode cX11_hurtsOf 24 = .ok (.goto (-12), 3) := by decide +kernel
theorem dX11_hurtsOf_27 : decode cX11_hurtsOf 27 = .ok (.aload_n 0, 1) := by decide +kernel
theorem dX11_hurtsOf_28 : decode cX11_hurtsOf 28 = .ok (.getfield 9, 3) := by decide +kernel
theorem dX11_hurtsOf_31 : decode cX11_hurtsOf 31 = .ok (.bipush 41, 2) := by decide +kernel
theorem dX11_hurtsOf_33 : decode cX11_hurtsOf 33 = .ok (.iload_n 1, 1) := by decide +kernel
theorem dX11_hurtsOf_34 : decode cX11_hurtsOf 34 = .ok (.iadd, 1) := by decide +kernel
theorem dX11_hurtsOf_35 : decode cX11_hurtsOf 35 = .ok (.iaload, 1) := by decide +kernel
theorem dX11_hurtsOf_36 : decode cX11_hurtsOf 36 = .ok (.iload_n 2, 1) := by decide +kernel
theorem dX11_hurtsOf_37 : decode cX11_hurtsOf 37 = .ok (.isub, 1) := by decide +kernel
theorem dX11_hurtsOf_38 : decode cX11_hurtsOf 38 = .ok (.ireturn, 1) := by decide +kernel
theorem dX11_hurts_0 : decode cX11_hurts 0 = .ok (.aload_n 0, 1) := by decide +kernel
theorem dX11_hurts_1 : decode cX11_hurts 1 = .ok (.iconst 0, 1) := by decide +kernel
theorem dX11_hurts_2 : decode cX11_hurts 2 = .ok (.putfield 70, 3) := by decide +kernel
theorem dX11_hurts_5 : decode cX11_hurts 5 = .ok (.aload_n 0, 1) := by decide +kernel
theorem dX11_hurts_6 : decode cX11_hurts 6 = .ok (.iload_n 1, 1) := by decide +kernel
theorem dX11_hurts_7 : decode cX11_hurts 7 = .ok (.invokevirtual 368, 3) := by decide +kernel
theorem dX11_hurts_10 : decode cX11_hurts 10 = .ok (.ifCond .ne 9, 3) := by decide +kernel
theorem dX11_hurts_13 : decode cX11_hurts 13 = .ok (.aload_n 0, 1) := by decide +kernel
theorem dX11_hurts_14 : decode cX11_hurts 14 = .ok (.iconst 1, 1) := by decide +kernel
theorem dX11_hurts_15 : decode cX11_hurts 15 = .ok (.invokevirtual 269, 3) := by decide +kernel
theorem dX11_hurts_18 : decode cX11_hurts 18 = .ok (.ireturn, 1) := by decide +kernel
theorem dX11_hurts_19 : decode cX11_hurts 19 = .ok (.aload_n 0, 1) := by decide +kernel
theorem dX11_hurts_20 : decode cX11_hurts 20 = .ok (.invokevirtual 425, 3) := by decide +kernel
theorem dX11_hurts_23 : decode cX11_hurts 23 = .ok (.aload_n 0, 1) := by decide +kernel
theorem dX11_hurts_24 : decode cX11_hurts 24 = .ok (.iload_n 1, 1) := by decide +kernel
theorem dX11_hurts_25 : decode cX11_hurts 25 = .ok (.invokevirtual 465, 3) := by decide +kernel
theorem dX11_hurts_28 : decode cX11_hurts 28 = .ok (.istore_n 2, 1) := by decide +kernel
theorem dX11_hurts_29 : decode cX11_hurts 29 = .ok (.aload_n 0, 1) := by decide +kernel
theorem dX11_hurts_30 : decode cX11_hurts 30 = .ok (.invokevirtual 440, 3) := by decide +kernel
theorem dX11_hurts_33 : decode cX11_hurts 33 = .ok (.iload_n 2, 1) := by decide +kernel
theorem dX11_hurts_34 : decode cX11_hurts 34 = .ok (.ireturn, 1) := by decide +kernel
theorem dX11_spares_0 : decode cX11_spares 0 = .ok (.aload_n 0, 1) := by decide +kernel
theorem dX11_spares_1 : decode cX11_spares 1 = .ok (.aload_n 0, 1) := by decide +kernel
theorem dX11_spares_2 : decode cX11_spares 2 = .ok (.iload_n 1, 1) := by decide +kernel
theorem dX11_spares_3 : decode cX11_spares 3 = .ok (.invokevirtual 368, 3) := by decide +kernel
theorem dX11_spares_6 : decode cX11_spares 6 = .ok (.ifCond .eq 16, 3) := by decide +kernel
theorem dX11_spares_9 : decode cX11_spares 9 = .ok (.aload_n 0, 1) := by decide +kernel
theorem dX11_spares_10 : decode cX11_spares 10 = .ok (.iload_n 2, 1) := by decide +kernel
theorem dX11_spares_11 : decode cX11_spares 11 = .ok (.i2l, 1) := by decide +kernel
theorem dX11_spares_12 : decode cX11_spares 12 = .ok (.invokevirtual 286, 3) := by decide +kernel
theorem dX11_spares_15 : decode cX11_spares 15 = .ok (.ifCond .eq 7, 3) := by decide +kernel
theorem dX11_spares_18 : decode cX11_spares 18 = .ok (.iconst 0, 1) := by decide +kernel
theorem dX11_spares_19 : decode cX11_spares 19 = .ok (.goto 4, 3) := by decide +kernel
theorem dX11_spares_22 : decode cX11_spares 22 = .ok (.iconst 1, 1) := by decide +kernel
theorem dX11_spares_23 : decode cX11_spares 23 = .ok (.putfield 70, 3) := by decide +kernel
theorem dX11_spares_26 : decode cX11_spares 26 = .ok (.aload_n 0, 1) := by decide +kernel
theorem dX11_spares_27 : decode cX11_spares 27 = .ok (.getfield 70, 3) := by decide +kernel
theorem dX11_spares_30 : decode cX11_spares 30 = .ok (.ifCond .le 5, 3) := by decide +kernel
theorem dX11_spares_33 : decode cX11_spares 33 = .ok (.iconst 0, 1) := by decide +kernel
theorem dX11_spares_34 : decode cX11_spares 34 = .ok (.ireturn, 1) := by decide +kernel
theorem dX11_spares_35 : decode cX11_spares 35 = .ok (.aload_n 0, 1) := by decide +kernel
theorem dX11_spares_36 : decode cX11_spares 36 = .ok (.invokevirtual 425, 3) := by decide +kernel
theorem dX11_spares_39 : decode cX11_spares 39 = .ok (.aload_n 0, 1) := by decide +kernel
theorem dX11_spares_40 : decode cX11_spares 40 = .ok (.iload_n 1, 1) := by decide +kernel
theorem dX11_spares_41 : decode cX11_spares 41 = .ok (.invokevirtual 465, 3) := by decide +kernel
theorem dX11_spares_44 : decode cX11_spares 44 = .ok (.istore_n 3, 1) := by decide +kernel
theorem dX11_spares_45 : decode cX11_spares 45 = .ok (.aload_n 0, 1) := by decide +kernel
theorem dX11_spares_46 : decode cX11_spares 46 = .ok (.invokevirtual 440, 3) := by decide +kernel
theorem dX11_spares_49 : decode cX11_spares 49 = .ok (.iconst 0, 1) := by decide +kernel
theorem dX11_spares_50 : decode cX11_spares 50 = .ok (.istore 4, 2) := by decide +kernel
theorem dX11_spares_52 : decode cX11_spares 52 = .ok (.iload 4, 2) := by decide +kernel
theorem dX11_spares_54 : decode cX11_spares 54 = .ok (.aload_n 0, 1) := by decide +kernel
theorem dX11_spares_55 : decode cX11_spares 55 = .ok (.invokevirtual 280, 3) := by decide +kernel
theorem dX11_spares_58 : decode cX11_spares 58 = .ok (.if_icmp .ge 25, 3) := by decide +kernel
theorem dX11_spares_61 : decode cX11_spares 61 = .ok (.aload_n 0, 1) := by decide +kernel
theorem dX11_spares_62 : decode cX11_spares 62 = .ok (.iload 4, 2) := by decide +kernel
theorem dX11_spares_64 : decode cX11_spares 64 = .ok (.iload_n 2, 1) := by decide +kernel
theorem dX11_spares_65 : decode cX11_spares 65 = .ok (.invokevirtual 320, 3) := by decide +kernel
theorem dX11_spares_68 : decode cX11_spares 68 = .ok (.ifCond .eq 9, 3) := by decide +kernel
theorem dX11_spares_71 : decode cX11_spares 71 = .ok (.aload_n 0, 1) := by decide +kernel
theorem dX11_spares_72 : decode cX11_spares 72 = .ok (.iload 4, 2) := by decide +kernel
theorem dX11_spares_74 : decode cX11_spares 74 = .ok (.invokevirtual 393, 3) := by decide +kernel
theorem dX11_spares_77 : decode cX11_spares 77 = .ok (.iinc 4 1, 3) := by decide +kernel
theorem dX11_spares_80 : decode cX11_spares 80 = .ok (.goto (-28), 3) := by decide +kernel
theorem dX11_spares_83 : decode cX11_spares 83 = .ok (.iload_n 3, 1) := by decide +kernel
theorem dX11_spares_84 : decode cX11_spares 84 = .ok (.aload_n 0, 1) := by decide +kernel
theorem dX11_spares_85 : decode cX11_spares 85 = .ok (.iload_n 1, 1) := by decide +kernel
theorem dX11_spares_86 : decode cX11_spares 86 = .ok (.invokevirtual 465, 3) := by decide +kernel
theorem dX11_spares_89 : decode cX11_spares 89 = .ok (.isub, 1) := by decide +kernel
theorem dX11_spares_90 : decode cX11_spares 90 = .ok (.istore_n 3, 1) := by decide +kernel
theorem dX11_spares_91 : decode cX11_spares 91 = .ok (.aload_n 0, 1) := by decide +kernel
theorem dX11_spares_92 : decode cX11_spares 92 = .ok (.invokevirtual 440, 3) := by decide +kernel
theorem dX11_spares_95 : decode cX11_spares 95 = .ok (.iload_n 3, 1) := by decide +kernel
theorem dX11_spares_96 : decode cX11_spares 96 = .ok (.ireturn, 1) := by decide +kernel
theorem dX11_laysWait_0 : decode cX11_laysWait 0 = .ok (.aload_n 0, 1) := by decide +kernel
theorem dX11_laysWait_1 : decode cX11_laysWait 1 = .ok (.invokevirtual 425, 3) := by decide +kernel
theorem dX11_laysWait_4 : decode cX11_laysWait 4 = .ok (.aload_n 0, 1) := by decide +kernel
theorem dX11_laysWait_5 : decode cX11_laysWait 5 = .ok (.getfield 9, 3) := by decide +kernel
theorem dX11_laysWait_8 : decode cX11_laysWait 8 = .ok (.bipush 40, 2) := by decide +kernel
theorem dX11_laysWait_10 : decode cX11_laysWait 10 = .ok (.iaload, 1) := by decide +kernel
theorem dX11_laysWait_11 : decode cX11_laysWait 11 = .ok (.istore 5, 2) := by decide +kernel
theorem dX11_laysWait_13 : decode cX11_laysWait 13 = .ok (.iconst 0, 1) := by decide +kernel
theorem dX11_laysWait_14 : decode cX11_laysWait 14 = .ok (.istore 6, 2) := by decide +kernel
theorem dX11_laysWait_16 : decode cX11_laysWait 16 = .ok (.iload 6, 2) := by decide +kernel
theorem dX11_laysWait_18 : decode cX11_laysWait 18 = .ok (.iload 4, 2) := by decide +kernel
theorem dX11_laysWait_20 : decode cX11_laysWait 20 = .ok (.if_icmp .ge 13, 3) := by decide +kernel
theorem dX11_laysWait_23 : decode cX11_laysWait 23 = .ok (.aload_n 0, 1) := by decide +kernel
theorem dX11_laysWait_24 : decode cX11_laysWait 24 = .ok (.invokevirtual 401, 3) := by decide +kernel
theorem dX11_laysWait_27 : decode cX11_laysWait 27 = .ok (.iinc 6 1, 3) := by decide +kernel
theorem dX11_laysWait_30 : decode cX11_laysWait 30 = .ok (.goto (-14), 3) := by decide +kernel
theorem dX11_laysWait_33 : decode cX11_laysWait 33 = .ok (.aload_n 0, 1) := by decide +kernel
theorem dX11_laysWait_34 : decode cX11_laysWait 34 = .ok (.iconst (-1), 1) := by decide +kernel
theorem dX11_laysWait_35 : decode cX11_laysWait 35 = .ok (.putfield 468, 3) := by decide +kernel
theorem dX11_laysWait_38 : decode cX11_laysWait 38 = .ok (.aload_n 0, 1) := by decide +kernel
theorem dX11_laysWait_39 : decode cX11_laysWait 39 = .ok (.iconst 0, 1) := by decide +kernel
theorem dX11_laysWait_40 : decode cX11_laysWait 40 = .ok (.putfield 471, 3) := by decide +kernel
theorem dX11_laysWait_43 : decode cX11_laysWait 43 = .ok (.aload_n 0, 1) := by decide +kernel
theorem dX11_laysWait_44 : decode cX11_laysWait 44 = .ok (.getfield 9, 3) := by decide +kernel
theorem dX11_laysWait_47 : decode cX11_laysWait 47 = .ok (.iload_n 2, 1) := by decide +kernel
theorem dX11_laysWait_48 : decode cX11_laysWait 48 = .ok (.iload_n 3, 1) := by decide +kernel
theorem dX11_laysWait_49 : decode cX11_laysWait 49 = .ok (.invokestatic 216, 3) := by decide +kernel
theorem dX11_laysWait_52 : decode cX11_laysWait 52 = .ok (.ifCond .eq 112, 3) := by decide +kernel
theorem dX11_laysWait_55 : decode cX11_laysWait 55 = .ok (.aload_n 0, 1) := by decide +kernel
theorem dX11_laysWait_56 : decode cX11_laysWait 56 = .ok (.iload_n 1, 1) := by decide +kernel
theorem dX11_laysWait_57 : decode cX11_laysWait 57 = .ok (.iload_n 2, 1) := by decide +kernel
theorem dX11_laysWait_58 : decode cX11_laysWait 58 = .ok (.iload_n 3, 1) := by decide +kernel
theorem dX11_laysWait_59 : decode cX11_laysWait 59 = .ok (.invokevirtual 386, 3) := by decide +kernel
theorem dX11_laysWait_62 : decode cX11_laysWait 62 = .ok (.pop, 1) := by decide +kernel
theorem dX11_laysWait_63 : decode cX11_laysWait 63 = .ok (.aload_n 0, 1) := by decide +kernel
theorem dX11_laysWait_64 : decode cX11_laysWait 64 = .ok (.iload_n 1, 1) := by decide +kernel
theorem dX11_laysWait_65 : decode cX11_laysWait 65 = .ok (.iconst 1, 1) := by decide +kernel
theorem dX11_laysWait_66 : decode cX11_laysWait 66 = .ok (.invokevirtual 283, 3) := by decide +kernel
theorem dX11_laysWait_69 : decode cX11_laysWait 69 = .ok (.ifCond .eq 14, 3) := by decide +kernel
theorem dX11_laysWait_72 : decode cX11_laysWait 72 = .ok (.aload_n 0, 1) := by decide +kernel
theorem dX11_laysWait_73 : decode cX11_laysWait 73 = .ok (.aload_n 0, 1) := by decide +kernel
theorem dX11_laysWait_74 : decode cX11_laysWait 74 = .ok (.invokevirtual 455, 3) := by decide +kernel
theorem dX11_laysWait_77 : decode cX11_laysWait 77 = .ok (.invokevirtual 355, 3) := by decide +kernel
theorem dX11_laysWait_80 : decode cX11_laysWait 80 = .ok (.goto (-17), 3) := by decide +kernel
theorem dX11_laysWait_83 : decode cX11_laysWait 83 = .ok (.aload_n 0, 1) := by decide +kernel
theorem dX11_laysWait_84 : decode cX11_laysWait 84 = .ok (.aload_n 0, 1) := by decide +kernel
theorem dX11_laysWait_85 : decode cX11_laysWait 85 = .ok (.getfield 9, 3) := by decide +kernel
theorem dX11_laysWait_88 : decode cX11_laysWait 88 = .ok (.bipush 40, 2) := by decide +kernel
theorem dX11_laysWait_90 : decode cX11_laysWait 90 = .ok (.iaload, 1) := by decide +kernel
theorem dX11_laysWait_91 : decode cX11_laysWait 91 = .ok (.iload 5, 2) := by decide +kernel
theorem dX11_laysWait_93 : decode cX11_laysWait 93 = .ok (.isub, 1) := by decide +kernel
theorem dX11_laysWait_94 : decode cX11_laysWait 94 = .ok (.putfield 468, 3) := by decide +kernel
theorem dX11_laysWait_97 : decode cX11_laysWait 97 = .ok (.iconst 0, 1) := by decide +kernel
theorem dX11_laysWait_98 : decode cX11_laysWait 98 = .ok (.istore 6, 2) := by decide +kernel
theorem dX11_laysWait_100 : decode cX11_laysWait 100 = .ok (.iload 6, 2) := by decide +kernel
theorem dX11_laysWait_102 : decode cX11_laysWait 102 = .ok (.aload_n 0, 1) := by decide +kernel
theorem dX11_laysWait_103 : decode cX11_laysWait 103 = .ok (.invokevirtual 280, 3) := by decide +kernel
theorem dX11_laysWait_106 : decode cX11_laysWait 106 = .ok (.if_icmp .ge 58, 3) := by decide +kernel
theorem dX11_laysWait_109 : decode cX11_laysWait 109 = .ok (.aload_n 0, 1) := by decide +kernel
theorem dX11_laysWait_110 : decode cX11_laysWait 110 = .ok (.dup, 1) := by decide +kernel
theorem dX11_laysWait_111 : decode cX11_laysWait 111 = .ok (.getfield 471, 3) := by decide +kernel
theorem dX11_laysWait_114 : decode cX11_laysWait 114 = .ok (.aload_n 0, 1) := by decide +kernel
theorem dX11_laysWait_115 : decode cX11_laysWait 115 = .ok (.getfield 339, 3) := by decide +kernel
theorem dX11_laysWait_118 : decode cX11_laysWait 118 = .ok (.iload 6, 2) := by decide +kernel
theorem dX11_laysWait_120 : decode cX11_laysWait 120 = .ok (.invokestatic 323, 3) := by decide +kernel
theorem dX11_laysWait_123 : decode cX11_laysWait 123 = .ok (.ifCond .eq 30, 3) := by decide +kernel
theorem dX11_laysWait_126 : decode cX11_laysWait 126 = .ok (.aload_n 0, 1) := by decide +kernel
theorem dX11_laysWait_127 : decode cX11_laysWait 127 = .ok (.getfield 9, 3) := by decide +kernel
theorem dX11_laysWait_130 : decode cX11_laysWait 130 = .ok (.bipush 16, 2) := by decide +kernel
theorem dX11_laysWait_132 : decode cX11_laysWait 132 = .ok (.iload 6, 2) := by decide +kernel
theorem dX11_laysWait_134 : decode cX11_laysWait 134 = .ok (.iadd, 1) := by decide +kernel
theorem dX11_laysWait_135 : decode cX11_laysWait 135 = .ok (.iaload, 1) := by decide +kernel
theorem dX11_laysWait_136 : decode cX11_laysWait 136 = .ok (.iload_n 2, 1) := by decide +kernel
theorem dX11_laysWait_137 : decode cX11_laysWait 137 = .ok (.if_icmp .ne 16, 3) := by decide +kernel
theorem dX11_laysWait_140 : decode cX11_laysWait 140 = .ok (.aload_n 0, 1) := by decide +kernel
theorem dX11_laysWait_141 : decode cX11_laysWait 141 = .ok (.getfield 9, 3) := by decide +kernel
theorem dX11_laysWait_144 : decode cX11_laysWait 144 = .ok (.bipush 45, 2) := by decide +kernel
theorem dX11_laysWait_146 : decode cX11_laysWait 146 = .ok (.iload 6, 2) := by decide +kernel
theorem dX11_laysWait_148 : decode cX11_laysWait 148 = .ok (.iadd, 1) := by decide +kernel
theorem dX11_laysWait_149 : decode cX11_laysWait 149 = .ok (.iaload, 1) := by decide +kernel
theorem dX11_laysWait_150 : decode cX11_laysWait 150 = .ok (.goto 4, 3) := by decide +kernel
theorem dX11_laysWait_153 : decode cX11_laysWait 153 = .ok (.iconst 0, 1) := by decide +kernel
theorem dX11_laysWait_154 : decode cX11_laysWait 154 = .ok (.iadd, 1) := by decide +kernel
theorem dX11_laysWait_155 : decode cX11_laysWait 155 = .ok (.putfield 471, 3) := by decide +kernel
theorem dX11_laysWait_158 : decode cX11_laysWait 158 = .ok (.iinc 6 1, 3) := by decide +kernel
theorem dX11_laysWait_161 : decode cX11_laysWait 161 = .ok (.goto (-61), 3) := by decide +kernel
theorem dX11_laysWait_164 : decode cX11_laysWait 164 = .ok (.aload_n 0, 1) := by decide +kernel
theorem dX11_laysWait_165 : decode cX11_laysWait 165 = .ok (.invokevirtual 440, 3) := by decide +kernel
theorem dX11_laysWait_168 : decode cX11_laysWait 168 = .ok (.return_, 1) := by decide +kernel
theorem dX11_isWaitOut_0 : decode cX11_isWaitOut 0 = .ok (.aload_n 0, 1) := by decide +kernel
theorem dX11_isWaitOut_1 : decode cX11_isWaitOut 1 = .ok (.aload_n 0, 1) := by decide +kernel
theorem dX11_isWaitOut_2 : decode cX11_isWaitOut 2 = .ok (.iload_n 1, 1) := by decide +kernel
theorem dX11_isWaitOut_3 : decode cX11_isWaitOut 3 = .ok (.i2l, 1) := by decide +kernel
theorem dX11_isWaitOut_4 : decode cX11_isWaitOut 4 = .ok (.invokevirtual 363, 3) := by decide +kernel
theorem dX11_isWaitOut_7 : decode cX11_isWaitOut 7 = .ok (.ifCond .eq 14, 3) := by decide +kernel
theorem dX11_isWaitOut_10 : decode cX11_isWaitOut 10 = .ok (.aload_n 0, 1) := by decide +kernel
theorem dX11_isWaitOut_11 : decode cX11_isWaitOut 11 = .ok (.iload_n 2, 1) := by decide +kernel
theorem dX11_isWaitOut_12 : decode cX11_isWaitOut 12 = .ok (.i2l, 1) := by decide +kernel
theorem dX11_isWaitOut_13 : decode cX11_isWaitOut 13 = .ok (.iload_n 3, 1) := by decide +kernel
theorem dX11_isWaitOut_14 : decode cX11_isWaitOut 14 = .ok (.i2l, 1) := by decide +kernel
theorem dX11_isWaitOut_15 : decode cX11_isWaitOut 15 = .ok (.invokevirtual 373, 3) := by decide +kernel
theorem dX11_isWaitOut_18 : decode cX11_isWaitOut 18 = .ok (.ifCond .ne 7, 3) := by decide +kernel
theorem dX11_isWaitOut_21 : decode cX11_isWaitOut 21 = .ok (.iconst 1, 1) := by decide +kernel
theorem dX11_isWaitOut_22 : decode cX11_isWaitOut 22 = .ok (.goto 17, 3) := by decide +kernel
theorem dX11_isWaitOut_25 : decode cX11_isWaitOut 25 = .ok (.aload_n 0, 1) := by decide +kernel
theorem dX11_isWaitOut_26 : decode cX11_isWaitOut 26 = .ok (.iload_n 1, 1) := by decide +kernel
theorem dX11_isWaitOut_27 : decode cX11_isWaitOut 27 = .ok (.iconst 0, 1) := by decide +kernel
theorem dX11_isWaitOut_28 : decode cX11_isWaitOut 28 = .ok (.invokevirtual 283, 3) := by decide +kernel
theorem dX11_isWaitOut_31 : decode cX11_isWaitOut 31 = .ok (.ifCond .eq 7, 3) := by decide +kernel
theorem dX11_isWaitOut_34 : decode cX11_isWaitOut 34 = .ok (.iconst 0, 1) := by decide +kernel
theorem dX11_isWaitOut_35 : decode cX11_isWaitOut 35 = .ok (.goto 4, 3) := by decide +kernel
theorem dX11_isWaitOut_38 : decode cX11_isWaitOut 38 = .ok (.iconst 2, 1) := by decide +kernel
theorem dX11_isWaitOut_39 : decode cX11_isWaitOut 39 = .ok (.putfield 70, 3) := by decide +kernel
theorem dX11_isWaitOut_42 : decode cX11_isWaitOut 42 = .ok (.aload_n 0, 1) := by decide +kernel
theorem dX11_isWaitOut_43 : decode cX11_isWaitOut 43 = .ok (.getfield 70, 3) := by decide +kernel
theorem dX11_isWaitOut_46 : decode cX11_isWaitOut 46 = .ok (.ifCond .le 7, 3) := by decide +kernel
theorem dX11_isWaitOut_49 : decode cX11_isWaitOut 49 = .ok (.iconst 1, 1) := by decide +kernel
theorem dX11_isWaitOut_50 : decode cX11_isWaitOut 50 = .ok (.goto 4, 3) := by decide +kernel
theorem dX11_isWaitOut_53 : decode cX11_isWaitOut 53 = .ok (.iconst 0, 1) := by decide +kernel
theorem dX11_isWaitOut_54 : decode cX11_isWaitOut 54 = .ok (.ireturn, 1) := by decide +kernel
theorem dX11_walkersIn_0 : decode cX11_walkersIn 0 = .ok (.iconst 0, 1) := by decide +kernel
theorem dX11_walkersIn_1 : decode cX11_walkersIn 1 = .ok (.istore_n 3, 1) := by decide +kernel
theorem dX11_walkersIn_2 : decode cX11_walkersIn 2 = .ok (.iconst 0, 1) := by decide +kernel
theorem dX11_walkersIn_3 : decode cX11_walkersIn 3 = .ok (.istore 4, 2) := by decide +kernel
theorem dX11_walkersIn_5 : decode cX11_walkersIn 5 = .ok (.iload 4, 2) := by decide +kernel
theorem dX11_walkersIn_7 : decode cX11_walkersIn 7 = .ok (.aload_n 0, 1) := by decide +kernel
theorem dX11_walkersIn_8 : decode cX11_walkersIn 8 = .ok (.getfield 9, 3) := by decide +kernel
theorem dX11_walkersIn_11 : decode cX11_walkersIn 11 = .ok (.iconst 4, 1) := by decide +kernel
theorem dX11_walkersIn_12 : decode cX11_walkersIn 12 = .ok (.iaload, 1) := by decide +kernel
theorem dX11_walkersIn_13 : decode cX11_walkersIn 13 = .ok (.if_icmp .ge 36, 3) := by decide +kernel
theorem dX11_walkersIn_16 : decode cX11_walkersIn 16 = .ok (.iload_n 3, 1) := by decide +kernel
theorem dX11_walkersIn_17 : decode cX11_walkersIn 17 = .ok (.aload_n 0, 1) := by decide +kernel
theorem dX11_walkersIn_18 : decode cX11_walkersIn 18 = .ok (.iload 4, 2) := by decide +kernel
theorem dX11_walkersIn_20 : decode cX11_walkersIn 20 = .ok (.aload_n 0, 1) := by decide +kernel
theorem dX11_walkersIn_21 : decode cX11_walkersIn 21 = .ok (.getfield 9, 3) := by decide +kernel
theorem dX11_walkersIn_24 : decode cX11_walkersIn 24 = .ok (.bipush 40, 2) := by decide +kernel
theorem dX11_walkersIn_26 : decode cX11_walkersIn 26 = .ok (.iaload, 1) := by decide +kernel
theorem dX11_walkersIn_27 : decode cX11_walkersIn 27 = .ok (.iload_n 2, 1) := by decide +kernel
theorem dX11_walkersIn_28 : decode cX11_walkersIn 28 = .ok (.iadd, 1) := by decide +kernel
theorem dX11_walkersIn_29 : decode cX11_walkersIn 29 = .ok (.invokevirtual 345, 3) := by decide +kernel
theorem dX11_walkersIn_32 : decode cX11_walkersIn 32 = .ok (.iload_n 1, 1) := by decide +kernel
theorem dX11_walkersIn_33 : decode cX11_walkersIn 33 = .ok (.if_icmp .ne 7, 3) := by decide +kernel
theorem dX11_walkersIn_36 : decode cX11_walkersIn 36 = .ok (.iconst 1, 1) := by decide +kernel
theorem dX11_walkersIn_37 : decode cX11_walkersIn 37 = .ok (.goto 4, 3) := by decide +kernel
theorem dX11_walkersIn_40 : decode cX11_walkersIn 40 = .ok (.iconst 0, 1) := by decide +kernel
theorem dX11_walkersIn_41 : decode cX11_walkersIn 41 = .ok (.iadd, 1) := by decide +kernel
theorem dX11_walkersIn_42 : decode cX11_walkersIn 42 = .ok (.istore_n 3, 1) := by decide +kernel
theorem dX11_walkersIn_43 : decode cX11_walkersIn 43 = .ok (.iinc 4 1, 3) := by decide +kernel
theorem dX11_walkersIn_46 : decode cX11_walkersIn 46 = .ok (.goto (-41), 3) := by decide +kernel
theorem dX11_walkersIn_49 : decode cX11_walkersIn 49 = .ok (.iload_n 3, 1) := by decide +kernel
theorem dX11_walkersIn_50 : decode cX11_walkersIn 50 = .ok (.ireturn, 1) := by decide +kernel
theorem dX11_fallsBy_0 : decode cX11_fallsBy 0 = .ok (.aload_n 0, 1) := by decide +kernel
theorem dX11_fallsBy_1 : decode cX11_fallsBy 1 = .ok (.iload_n 1, 1) := by decide +kernel
theorem dX11_fallsBy_2 : decode cX11_fallsBy 2 = .ok (.iload_n 2, 1) := by decide +kernel
theorem dX11_fallsBy_3 : decode cX11_fallsBy 3 = .ok (.iload_n 3, 1) := by decide +kernel
theorem dX11_fallsBy_4 : decode cX11_fallsBy 4 = .ok (.invokevirtual 474, 3) := by decide +kernel
theorem dX11_fallsBy_7 : decode cX11_fallsBy 7 = .ok (.ifCond .ne 21, 3) := by decide +kernel
theorem dX11_fallsBy_10 : decode cX11_fallsBy 10 = .ok (.iload 4, 2) := by decide +kernel
theorem dX11_fallsBy_12 : decode cX11_fallsBy 12 = .ok (.i2l, 1) := by decide +kernel
theorem dX11_fallsBy_13 : decode cX11_fallsBy 13 = .ok (.lconst 0, 1) := by decide +kernel
theorem dX11_fallsBy_14 : decode cX11_fallsBy 14 = .ok (.ldc2_w 477, 3) := by decide +kernel
theorem dX11_fallsBy_17 : decode cX11_fallsBy 17 = .ok (.invokestatic 131, 3) := by decide +kernel
theorem dX11_fallsBy_20 : decode cX11_fallsBy 20 = .ok (.ifCond .ne 8, 3) := by decide +kernel
theorem dX11_fallsBy_23 : decode cX11_fallsBy 23 = .ok (.aload_n 0, 1) := by decide +kernel
theorem dX11_fallsBy_24 : decode cX11_fallsBy 24 = .ok (.iconst 3, 1) := by decide +kernel
theorem dX11_fallsBy_25 : decode cX11_fallsBy 25 = .ok (.putfield 70, 3) := by decide +kernel
theorem dX11_fallsBy_28 : decode cX11_fallsBy 28 = .ok (.aload_n 0, 1) := by decide +kernel
theorem dX11_fallsBy_29 : decode cX11_fallsBy 29 = .ok (.getfield 70, 3) := by decide +kernel
theorem dX11_fallsBy_32 : decode cX11_fallsBy 32 = .ok (.ifCond .le 5, 3) := by decide +kernel
theorem dX11_fallsBy_35 : decode cX11_fallsBy 35 = .ok (.iconst 0, 1) := by decide +kernel
theorem dX11_fallsBy_36 : decode cX11_fallsBy 36 = .ok (.ireturn, 1) := by decide +kernel
theorem dX11_fallsBy_37 : decode cX11_fallsBy 37 = .ok (.aload_n 0, 1) := by decide +kernel
theorem dX11_fallsBy_38 : decode cX11_fallsBy 38 = .ok (.iload_n 1, 1) := by decide +kernel
theorem dX11_fallsBy_39 : decode cX11_fallsBy 39 = .ok (.iload_n 2, 1) := by decide +kernel
theorem dX11_fallsBy_40 : decode cX11_fallsBy 40 = .ok (.iload_n 3, 1) := by decide +kernel
theorem dX11_fallsBy_41 : decode cX11_fallsBy 41 = .ok (.iload 4, 2) := by decide +kernel
theorem dX11_fallsBy_43 : decode cX11_fallsBy 43 = .ok (.invokevirtual 479, 3) := by decide +kernel
theorem dX11_fallsBy_46 : decode cX11_fallsBy 46 = .ok (.aload_n 0, 1) := by decide +kernel
theorem dX11_fallsBy_47 : decode cX11_fallsBy 47 = .ok (.getfield 468, 3) := by decide +kernel
theorem dX11_fallsBy_50 : decode cX11_fallsBy 50 = .ok (.ireturn, 1) := by decide +kernel
theorem dX11_leastWait_0 : decode cX11_leastWait 0 = .ok (.iconst 0, 1) := by decide +kernel
theorem dX11_leastWait_1 : decode cX11_leastWait 1 = .ok (.istore 5, 2) := by decide +kernel
theorem dX11_leastWait_3 : decode cX11_leastWait 3 = .ok (.iload 5, 2) := by decide +kernel
theorem dX11_leastWait_5 : decode cX11_leastWait 5 = .ok (.bipush 60, 2) := by decide +kernel
theorem dX11_leastWait_7 : decode cX11_leastWait 7 = .ok (.if_icmp .gt 30, 3) := by decide +kernel
theorem dX11_leastWait_10 : decode cX11_leastWait 10 = .ok (.aload_n 0, 1) := by decide +kernel
theorem dX11_leastWait_11 : decode cX11_leastWait 11 = .ok (.iload_n 1, 1) := by decide +kernel
theorem dX11_leastWait_12 : decode cX11_leastWait 12 = .ok (.iload_n 2, 1) := by decide +kernel
theorem dX11_leastWait_13 : decode cX11_leastWait 13 = .ok (.iload_n 3, 1) := by decide +kernel
theorem dX11_leastWait_14 : decode cX11_leastWait 14 = .ok (.iload 5, 2) := by decide +kernel
theorem dX11_leastWait_16 : decode cX11_leastWait 16 = .ok (.invokevirtual 479, 3) := by decide +kernel
theorem dX11_leastWait_19 : decode cX11_leastWait 19 = .ok (.aload_n 0, 1) := by decide +kernel
theorem dX11_leastWait_20 : decode cX11_leastWait 20 = .ok (.getfield 468, 3) := by decide +kernel
theorem dX11_leastWait_23 : decode cX11_leastWait 23 = .ok (.iload 4, 2) := by decide +kernel
theorem dX11_leastWait_25 : decode cX11_leastWait 25 = .ok (.if_icmp .ne 6, 3) := by decide +kernel
theorem dX11_leastWait_28 : decode cX11_leastWait 28 = .ok (.iload 5, 2) := by decide +kernel
theorem dX11_leastWait_30 : decode cX11_leastWait 30 = .ok (.ireturn, 1) := by decide +kernel
theorem dX11_leastWait_31 : decode cX11_leastWait 31 = .ok (.iinc 5 1, 3) := by decide +kernel
theorem dX11_leastWait_34 : decode cX11_leastWait 34 = .ok (.goto (-31), 3) := by decide +kernel
theorem dX11_leastWait_37 : decode cX11_leastWait 37 = .ok (.iconst (-1), 1) := by decide +kernel
theorem dX11_leastWait_38 : decode cX11_leastWait 38 = .ok (.ireturn, 1) := by decide +kernel
theorem dX11_waitFor_0 : decode cX11_waitFor 0 = .ok (.aload_n 0, 1) := by decide +kernel
theorem dX11_waitFor_1 : decode cX11_waitFor 1 = .ok (.iload_n 1, 1) := by decide +kernel
theorem dX11_waitFor_2 : decode cX11_waitFor 2 = .ok (.iload_n 2, 1) := by decide +kernel
theorem dX11_waitFor_3 : decode cX11_waitFor 3 = .ok (.iload_n 3, 1) := by decide +kernel
theorem dX11_waitFor_4 : decode cX11_waitFor 4 = .ok (.invokevirtual 474, 3) := by decide +kernel
theorem dX11_waitFor_7 : decode cX11_waitFor 7 = .ok (.ifCond .ne 21, 3) := by decide +kernel
theorem dX11_waitFor_10 : decode cX11_waitFor 10 = .ok (.iload 4, 2) := by decide +kernel
theorem dX11_waitFor_12 : decode cX11_waitFor 12 = .ok (.i2l, 1) := by decide +kernel
theorem dX11_waitFor_13 : decode cX11_waitFor 13 = .ok (.lconst 0, 1) := by decide +kernel
theorem dX11_waitFor_14 : decode cX11_waitFor 14 = .ok (.ldc2_w 377, 3) := by decide +kernel
theorem dX11_waitFor_17 : decode cX11_waitFor 17 = .ok (.invokestatic 131, 3) := by decide +kernel
theorem dX11_waitFor_20 : decode cX11_waitFor 20 = .ok (.ifCond .ne 8, 3) := by decide +kernel
theorem dX11_waitFor_23 : decode cX11_waitFor 23 = .ok (.aload_n 0, 1) := by decide +kernel
theorem dX11_waitFor_24 : decode cX11_waitFor 24 = .ok (.iconst 3, 1) := by decide +kernel
theorem dX11_waitFor_25 : decode cX11_waitFor 25 = .ok (.putfield 70, 3) := by decide +kernel
theorem dX11_waitFor_28 : decode cX11_waitFor 28 = .ok (.aload_n 0, 1) := by decide +kernel
theorem dX11_waitFor_29 : decode cX11_waitFor 29 = .ok (.getfield 70, 3) := by decide +kernel
theorem dX11_waitFor_32 : decode cX11_waitFor 32 = .ok (.ifCond .le 7, 3) := by decide +kernel
theorem dX11_waitFor_35 : decode cX11_waitFor 35 = .ok (.iconst 0, 1) := by decide +kernel
theorem dX11_waitFor_36 : decode cX11_waitFor 36 = .ok (.goto 12, 3) := by decide +kernel
theorem dX11_waitFor_39 : decode cX11_waitFor 39 = .ok (.aload_n 0, 1) := by decide +kernel
theorem dX11_waitFor_40 : decode cX11_waitFor 40 = .ok (.iload_n 1, 1) := by decide +kernel
theorem dX11_waitFor_41 : decode cX11_waitFor 41 = .ok (.iload_n 2, 1) := by decide +kernel
theorem dX11_waitFor_42 : decode cX11_waitFor 42 = .ok (.iload_n 3, 1) := by decide +kernel
theorem dX11_waitFor_43 : decode cX11_waitFor 43 = .ok (.iload 4, 2) := by decide +kernel
theorem dX11_waitFor_45 : decode cX11_waitFor 45 = .ok (.invokevirtual 483, 3) := by decide +kernel
theorem dX11_waitFor_48 : decode cX11_waitFor 48 = .ok (.ireturn, 1) := by decide +kernel
theorem dX11_waitSafe_0 : decode cX11_waitSafe 0 = .ok (.aload_n 0, 1) := by decide +kernel
theorem dX11_waitSafe_1 : decode cX11_waitSafe 1 = .ok (.iload_n 1, 1) := by decide +kernel
theorem dX11_waitSafe_2 : decode cX11_waitSafe 2 = .ok (.iload_n 2, 1) := by decide +kernel
theorem dX11_waitSafe_3 : decode cX11_waitSafe 3 = .ok (.iload_n 3, 1) := by decide +kernel
theorem dX11_waitSafe_4 : decode cX11_waitSafe 4 = .ok (.invokevirtual 474, 3) := by decide +kernel
theorem dX11_waitSafe_7 : decode cX11_waitSafe 7 = .ok (.ifCond .eq 5, 3) := by decide +kernel
theorem dX11_waitSafe_10 : decode cX11_waitSafe 10 = .ok (.iconst 0, 1) := by decide +kernel
theorem dX11_waitSafe_11 : decode cX11_waitSafe 11 = .ok (.ireturn, 1) := by decide +kernel
theorem dX11_waitSafe_12 : decode cX11_waitSafe 12 = .ok (.iconst 0, 1) := by decide +kernel
theorem dX11_waitSafe_13 : decode cX11_waitSafe 13 = .ok (.istore 4, 2) := by decide +kernel
theorem dX11_waitSafe_15 : decode cX11_waitSafe 15 = .ok (.iload 4, 2) := by decide +kernel
theorem dX11_waitSafe_17 : decode cX11_waitSafe 17 = .ok (.bipush 60, 2) := by decide +kernel
theorem dX11_waitSafe_19 : decode cX11_waitSafe 19 = .ok (.if_icmp .gt 41, 3) := by decide +kernel
theorem dX11_waitSafe_22 : decode cX11_waitSafe 22 = .ok (.aload_n 0, 1) := by decide +kernel
theorem dX11_waitSafe_23 : decode cX11_waitSafe 23 = .ok (.iload_n 1, 1) := by decide +kernel
theorem dX11_waitSafe_24 : decode cX11_waitSafe 24 = .ok (.iload_n 2, 1) := by decide +kernel
theorem dX11_waitSafe_25 : decode cX11_waitSafe 25 = .ok (.iload_n 3, 1) := by decide +kernel
theorem dX11_waitSafe_26 : decode cX11_waitSafe 26 = .ok (.iload 4, 2) := by decide +kernel
theorem dX11_waitSafe_28 : decode cX11_waitSafe 28 = .ok (.invokevirtual 479, 3) := by decide +kernel
theorem dX11_waitSafe_31 : decode cX11_waitSafe 31 = .ok (.aload_n 0, 1) := by decide +kernel
theorem dX11_waitSafe_32 : decode cX11_waitSafe 32 = .ok (.getfield 468, 3) := by decide +kernel
theorem dX11_waitSafe_35 : decode cX11_waitSafe 35 = .ok (.iconst (-1), 1) := by decide +kernel
theorem dX11_waitSafe_36 : decode cX11_waitSafe 36 = .ok (.if_icmp .eq 18, 3) := by decide +kernel
theorem dX11_waitSafe_39 : decode cX11_waitSafe 39 = .ok (.aload_n 0, 1) := by decide +kernel
theorem dX11_waitSafe_40 : decode cX11_waitSafe 40 = .ok (.iload_n 2, 1) := by decide +kernel
theorem dX11_waitSafe_41 : decode cX11_waitSafe 41 = .ok (.aload_n 0, 1) := by decide +kernel
theorem dX11_waitSafe_42 : decode cX11_waitSafe 42 = .ok (.getfield 468, 3) := by decide +kernel
theorem dX11_waitSafe_45 : decode cX11_waitSafe 45 = .ok (.invokevirtual 487, 3) := by decide +kernel
theorem dX11_waitSafe_48 : decode cX11_waitSafe 48 = .ok (.ifCond .ne 6, 3) := by decide +kernel
theorem dX11_waitSafe_51 : decode cX11_waitSafe 51 = .ok (.iload 4, 2) := by decide +kernel
theorem dX11_waitSafe_53 : decode cX11_waitSafe 53 = .ok (.ireturn, 1) := by decide +kernel
theorem dX11_waitSafe_54 : decode cX11_waitSafe 54 = .ok (.iinc 4 1, 3) := by decide +kernel
theorem dX11_waitSafe_57 : decode cX11_waitSafe 57 = .ok (.goto (-42), 3) := by decide +kernel
theorem dX11_waitSafe_60 : decode cX11_waitSafe 60 = .ok (.iconst (-1), 1) := by decide +kernel
theorem dX11_waitSafe_61 : decode cX11_waitSafe 61 = .ok (.ireturn, 1) := by decide +kernel
theorem dX11_waitHurt_0 : decode cX11_waitHurt 0 = .ok (.aload_n 0, 1) := by decide +kernel
theorem dX11_waitHurt_1 : decode cX11_waitHurt 1 = .ok (.aload_n 0, 1) := by decide +kernel
theorem dX11_waitHurt_2 : decode cX11_waitHurt 2 = .ok (.iload_n 1, 1) := by decide +kernel
theorem dX11_waitHurt_3 : decode cX11_waitHurt 3 = .ok (.i2l, 1) := by decide +kernel
theorem dX11_waitHurt_4 : decode cX11_waitHurt 4 = .ok (.invokevirtual 363, 3) := by decide +kernel
theorem dX11_waitHurt_7 : decode cX11_waitHurt 7 = .ok (.ifCond .eq 23, 3) := by decide +kernel
theorem dX11_waitHurt_10 : decode cX11_waitHurt 10 = .ok (.aload_n 0, 1) := by decide +kernel
theorem dX11_waitHurt_11 : decode cX11_waitHurt 11 = .ok (.iload_n 2, 1) := by decide +kernel
theorem dX11_waitHurt_12 : decode cX11_waitHurt 12 = .ok (.i2l, 1) := by decide +kernel
theorem dX11_waitHurt_13 : decode cX11_waitHurt 13 = .ok (.iload_n 3, 1) := by decide +kernel
theorem dX11_waitHurt_14 : decode cX11_waitHurt 14 = .ok (.i2l, 1) := by decide +kernel
theorem dX11_waitHurt_15 : decode cX11_waitHurt 15 = .ok (.invokevirtual 373, 3) := by decide +kernel
theorem dX11_waitHurt_18 : decode cX11_waitHurt 18 = .ok (.ifCond .eq 12, 3) := by decide +kernel
theorem dX11_waitHurt_21 : decode cX11_waitHurt 21 = .ok (.aload_n 0, 1) := by decide +kernel
theorem dX11_waitHurt_22 : decode cX11_waitHurt 22 = .ok (.iload 4, 2) := by decide +kernel
theorem dX11_waitHurt_24 : decode cX11_waitHurt 24 = .ok (.invokevirtual 368, 3) := by decide +kernel
theorem dX11_waitHurt_27 : decode cX11_waitHurt 27 = .ok (.ifCond .ne 7, 3) := by decide +kernel
theorem dX11_waitHurt_30 : decode cX11_waitHurt 30 = .ok (.iconst 1, 1) := by decide +kernel
theorem dX11_waitHurt_31 : decode cX11_waitHurt 31 = .ok (.goto 17, 3) := by decide +kernel
theorem dX11_waitHurt_34 : decode cX11_waitHurt 34 = .ok (.aload_n 0, 1) := by decide +kernel
theorem dX11_waitHurt_35 : decode cX11_waitHurt 35 = .ok (.iload_n 1, 1) := by decide +kernel
theorem dX11_waitHurt_36 : decode cX11_waitHurt 36 = .ok (.iconst 0, 1) := by decide +kernel
theorem dX11_waitHurt_37 : decode cX11_waitHurt 37 = .ok (.invokevirtual 283, 3) := by decide +kernel
theorem dX11_waitHurt_40 : decode cX11_waitHurt 40 = .ok (.ifCond .eq 7, 3) := by decide +kernel
theorem dX11_waitHurt_43 : decode cX11_waitHurt 43 = .ok (.iconst 0, 1) := by decide +kernel
theorem dX11_waitHurt_44 : decode cX11_waitHurt 44 = .ok (.goto 4, 3) := by decide +kernel
theorem dX11_waitHurt_47 : decode cX11_waitHurt 47 = .ok (.iconst 2, 1) := by decide +kernel
theorem dX11_waitHurt_48 : decode cX11_waitHurt 48 = .ok (.putfield 70, 3) := by decide +kernel
theorem dX11_waitHurt_51 : decode cX11_waitHurt 51 = .ok (.aload_n 0, 1) := by decide +kernel
theorem dX11_waitHurt_52 : decode cX11_waitHurt 52 = .ok (.getfield 70, 3) := by decide +kernel
theorem dX11_waitHurt_55 : decode cX11_waitHurt 55 = .ok (.ifCond .le 5, 3) := by decide +kernel
theorem dX11_waitHurt_58 : decode cX11_waitHurt 58 = .ok (.iconst 0, 1) := by decide +kernel
theorem dX11_waitHurt_59 : decode cX11_waitHurt 59 = .ok (.ireturn, 1) := by decide +kernel
theorem dX11_waitHurt_60 : decode cX11_waitHurt 60 = .ok (.iconst 0, 1) := by decide +kernel
theorem dX11_waitHurt_61 : decode cX11_waitHurt 61 = .ok (.istore 5, 2) := by decide +kernel
theorem dX11_waitHurt_63 : decode cX11_waitHurt 63 = .ok (.iload 5, 2) := by decide +kernel
theorem dX11_waitHurt_65 : decode cX11_waitHurt 65 = .ok (.bipush 60, 2) := by decide +kernel
theorem dX11_waitHurt_67 : decode cX11_waitHurt 67 = .ok (.if_icmp .gt 51, 3) := by decide +kernel
theorem dX11_waitHurt_70 : decode cX11_waitHurt 70 = .ok (.aload_n 0, 1) := by decide +kernel
theorem dX11_waitHurt_71 : decode cX11_waitHurt 71 = .ok (.iload_n 1, 1) := by decide +kernel
theorem dX11_waitHurt_72 : decode cX11_waitHurt 72 = .ok (.iload_n 2, 1) := by decide +kernel
theorem dX11_waitHurt_73 : decode cX11_waitHurt 73 = .ok (.iload_n 3, 1) := by decide +kernel
theorem dX11_waitHurt_74 : decode cX11_waitHurt 74 = .ok (.iload 5, 2) := by decide +kernel
theorem dX11_waitHurt_76 : decode cX11_waitHurt 76 = .ok (.invokevirtual 479, 3) := by decide +kernel
theorem dX11_waitHurt_79 : decode cX11_waitHurt 79 = .ok (.aload_n 0, 1) := by decide +kernel
theorem dX11_waitHurt_80 : decode cX11_waitHurt 80 = .ok (.getfield 468, 3) := by decide +kernel
theorem dX11_waitHurt_83 : decode cX11_waitHurt 83 = .ok (.iconst (-1), 1) := by decide +kernel
theorem dX11_waitHurt_84 : decode cX11_waitHurt 84 = .ok (.if_icmp .eq 28, 3) := by decide +kernel
theorem dX11_waitHurt_87 : decode cX11_waitHurt 87 = .ok (.aload_n 0, 1) := by decide +kernel
theorem dX11_waitHurt_88 : decode cX11_waitHurt 88 = .ok (.iload 4, 2) := by decide +kernel
theorem dX11_waitHurt_90 : decode cX11_waitHurt 90 = .ok (.aload_n 0, 1) := by decide +kernel
theorem dX11_waitHurt_91 : decode cX11_waitHurt 91 = .ok (.getfield 9, 3) := by decide +kernel
theorem dX11_waitHurt_94 : decode cX11_waitHurt 94 = .ok (.bipush 40, 2) := by decide +kernel
theorem dX11_waitHurt_96 : decode cX11_waitHurt 96 = .ok (.iaload, 1) := by decide +kernel
theorem dX11_waitHurt_97 : decode cX11_waitHurt 97 = .ok (.aload_n 0, 1) := by decide +kernel
theorem dX11_waitHurt_98 : decode cX11_waitHurt 98 = .ok (.getfield 468, 3) := by decide +kernel
theorem dX11_waitHurt_101 : decode cX11_waitHurt 101 = .ok (.iadd, 1) := by decide +kernel
theorem dX11_waitHurt_102 : decode cX11_waitHurt 102 = .ok (.invokevirtual 345, 3) := by decide +kernel
theorem dX11_waitHurt_105 : decode cX11_waitHurt 105 = .ok (.iload_n 2, 1) := by decide +kernel
theorem dX11_waitHurt_106 : decode cX11_waitHurt 106 = .ok (.if_icmp .ne 6, 3) := by decide +kernel
theorem dX11_waitHurt_109 : decode cX11_waitHurt 109 = .ok (.iload 5, 2) := by decide +kernel
theorem dX11_waitHurt_111 : decode cX11_waitHurt 111 = .ok (.ireturn, 1) := by decide +kernel
theorem dX11_waitHurt_112 : decode cX11_waitHurt 112 = .ok (.iinc 5 1, 3) := by decide +kernel
theorem dX11_waitHurt_115 : decode cX11_waitHurt 115 = .ok (.goto (-52), 3) := by decide +kernel
theorem dX11_waitHurt_118 : decode cX11_waitHurt 118 = .ok (.iconst (-1), 1) := by decide +kernel
theorem dX11_waitHurt_119 : decode cX11_waitHurt 119 = .ok (.ireturn, 1) := by decide +kernel
theorem dX11_place_0 : decode cX11_place 0 = .ok (.aload_n 0, 1) := by decide +kernel
theorem dX11_place_1 : decode cX11_place 1 = .ok (.aload_n 0, 1) := by decide +kernel
theorem dX11_place_2 : decode cX11_place 2 = .ok (.iload_n 1, 1) := by decide +kernel
theorem dX11_place_3 : decode cX11_place 3 = .ok (.i2l, 1) := by decide +kernel
theorem dX11_place_4 : decode cX11_place 4 = .ok (.invokevirtual 363, 3) := by decide +kernel
theorem dX11_place_7 : decode cX11_place 7 = .ok (.ifCond .ne 7, 3) := by decide +kernel
theorem dX11_place_10 : decode cX11_place 10 = .ok (.iconst 1, 1) := by decide +kernel
theorem dX11_place_11 : decode cX11_place 11 = .ok (.goto 17, 3) := by decide +kernel
theorem dX11_place_14 : decode cX11_place 14 = .ok (.aload_n 0, 1) := by decide +kernel
theorem dX11_place_15 : decode cX11_place 15 = .ok (.iload_n 1, 1) := by decide +kernel
theorem dX11_place_16 : decode cX11_place 16 = .ok (.iconst 0, 1) := by decide +kernel
theorem dX11_place_17 : decode cX11_place 17 = .ok (.invokevirtual 283, 3) := by decide +kernel
theorem dX11_place_20 : decode cX11_place 20 = .ok (.ifCond .eq 7, 3) := by decide +kernel
theorem dX11_place_23 : decode cX11_place 23 = .ok (.iconst 0, 1) := by decide +kernel
theorem dX11_place_24 : decode cX11_place 24 = .ok (.goto 4, 3) := by decide +kernel
theorem dX11_place_27 : decode cX11_place 27 = .ok (.iconst 2, 1) := by decide +kernel
theorem dX11_place_28 : decode cX11_place 28 = .ok (.putfield 70, 3) := by decide +kernel
theorem dX11_place_31 : decode cX11_place 31 = .ok (.aload_n 0, 1) := by decide +kernel
theorem dX11_place_32 : decode cX11_place 32 = .ok (.getfield 70, 3) := by decide +kernel
theorem dX11_place_35 : decode cX11_place 35 = .ok (.ifCond .le 5, 3) := by decide +kernel
theorem dX11_place_38 : decode cX11_place 38 = .ok (.iconst 0, 1) := by decide +kernel
theorem dX11_place_39 : decode cX11_place 39 = .ok (.ireturn, 1) := by decide +kernel
theorem dX11_place_40 : decode cX11_place 40 = .ok (.iconst (-1), 1) := by decide +kernel
theorem dX11_place_41 : decode cX11_place 41 = .ok (.istore_n 3, 1) := by decide +kernel
theorem dX11_place_42 : decode cX11_place 42 = .ok (.iconst 0, 1) := by decide +kernel
theorem dX11_place_43 : decode cX11_place 43 = .ok (.istore 4, 2) := by decide +kernel
theorem dX11_place_45 : decode cX11_place 45 = .ok (.iconst 0, 1) := by decide +kernel
theorem dX11_place_46 : decode cX11_place 46 = .ok (.istore 5, 2) := by decide +kernel
theorem dX11_place_48 : decode cX11_place 48 = .ok (.iload 5, 2) := by decide +kernel
theorem dX11_place_50 : decode cX11_place 50 = .ok (.aload_n 0, 1) := by decide +kernel
theorem dX11_place_51 : decode cX11_place 51 = .ok (.getfield 9, 3) := by decide +kernel
theorem dX11_place_54 : decode cX11_place 54 = .ok (.iconst 1, 1) := by decide +kernel
theorem dX11_place_55 : decode cX11_place 55 = .ok (.iaload, 1) := by decide +kernel
theorem dX11_place_56 : decode cX11_place 56 = .ok (.if_icmp .ge 95, 3) := by decide +kernel
theorem dX11_place_59 : decode cX11_place 59 = .ok (.iconst 0, 1) := by decide +kernel
theorem dX11_place_60 : decode cX11_place 60 = .ok (.istore 6, 2) := by decide +kernel
theorem dX11_place_62 : decode cX11_place 62 = .ok (.iload 6, 2) := by decide +kernel
theorem dX11_place_64 : decode cX11_place 64 = .ok (.aload_n 0, 1) := by decide +kernel
theorem dX11_place_65 : decode cX11_place 65 = .ok (.getfield 9, 3) := by decide +kernel
theorem dX11_place_68 : decode cX11_place 68 = .ok (.iconst 2, 1) := by decide +kernel
theorem dX11_place_69 : decode cX11_place 69 = .ok (.iaload, 1) := by decide +kernel
theorem dX11_place_70 : decode cX11_place 70 = .ok (.if_icmp .ge 75, 3) := by decide +kernel
theorem dX11_place_73 : decode cX11_place 73 = .ok (.aload_n 0, 1) := by decide +kernel
theorem dX11_place_74 : decode cX11_place 74 = .ok (.iload_n 1, 1) := by decide +kernel
theorem dX11_place_75 : decode cX11_place 75 = .ok (.iload 5, 2) := by decide +kernel
theorem dX11_place_77 : decode cX11_place 77 = .ok (.iload 6, 2) := by decide +kernel
theorem dX11_place_79 : decode cX11_place 79 = .ok (.iconst 0, 1) := by decide +kernel
theorem dX11_place_80 : decode cX11_place 80 = .ok (.invokevirtual 479, 3) := by decide +kernel
theorem dX11_place_83 : decode cX11_place 83 = .ok (.aload_n 0, 1) := by decide +kernel
theorem dX11_place_84 : decode cX11_place 84 = .ok (.getfield 468, 3) := by decide +kernel
theorem dX11_place_87 : decode cX11_place 87 = .ok (.iconst (-1), 1) := by decide +kernel
theorem dX11_place_88 : decode cX11_place 88 = .ok (.if_icmp .eq 51, 3) := by decide +kernel
theorem dX11_place_91 : decode cX11_place 91 = .ok (.iload_n 3, 1) := by decide +kernel
theorem dX11_place_92 : decode cX11_place 92 = .ok (.iconst (-1), 1) := by decide +kernel
theorem dX11_place_93 : decode cX11_place 93 = .ok (.if_icmp .eq 31, 3) := by decide +kernel
theorem dX11_place_96 : decode cX11_place 96 = .ok (.iload_n 2, 1) := by decide +kernel
theorem dX11_place_97 : decode cX11_place 97 = .ok (.ifCond .eq 15, 3) := by decide +kernel
theorem dX11_place_100 : decode cX11_place 100 = .ok (.aload_n 0, 1) := by decide +kernel
theorem dX11_place_101 : decode cX11_place 101 = .ok (.getfield 468, 3) := by decide +kernel
theorem dX11_place_104 : decode cX11_place 104 = .ok (.iload 4, 2) := by decide +kernel
theorem dX11_place_106 : decode cX11_place 106 = .ok (.if_icmp .gt 18, 3) := by decide +kernel
theorem dX11_place_109 : decode cX11_place 109 = .ok (.goto 30, 3) := by decide +kernel
theorem dX11_place_112 : decode cX11_place 112 = .ok (.aload_n 0, 1) := by decide +kernel
theorem dX11_place_113 : decode cX11_place 113 = .ok (.getfield 468, 3) := by decide +kernel
theorem dX11_place_116 : decode cX11_place 116 = .ok (.iload 4, 2) := by decide +kernel
theorem dX11_place_118 : decode cX11_place 118 = .ok (.if_icmp .lt 6, 3) := by decide +kernel
theorem dX11_place_121 : decode cX11_place 121 = .ok (.goto 18, 3) := by decide +kernel
theorem dX11_place_124 : decode cX11_place 124 = .ok (.bipush 10, 2) := by decide +kernel
theorem dX11_place_126 : decode cX11_place 126 = .ok (.iload 5, 2) := by decide +kernel
theorem dX11_place_128 : decode cX11_place 128 = .ok (.imul, 1) := by decide +kernel
theorem dX11_place_129 : decode cX11_place 129 = .ok (.iload 6, 2) := by decide +kernel
theorem dX11_place_131 : decode cX11_place 131 = .ok (.iadd, 1) := by decide +kernel
theorem dX11_place_132 : decode cX11_place 132 = .ok (.istore_n 3, 1) := by decide +kernel
theorem dX11_place_133 : decode cX11_place 133 = .ok (.aload_n 0, 1) := by decide +kernel
theorem dX11_place_134 : decode cX11_place 134 = .ok (.getfield 468, 3) := by decide +kernel
theorem dX11_place_137 : decode cX11_place 137 = .ok (.istore 4, 2) := by decide +kernel
theorem dX11_place_139 : decode cX11_place 139 = .ok (.iinc 6 1, 3) := by decide +kernel
theorem dX11_place_142 : decode cX11_place 142 = .ok (.goto (-80), 3) := by decide +kernel
theorem dX11_place_145 : decode cX11_place 145 = .ok (.iinc 5 1, 3) := by decide +kernel
theorem dX11_place_148 : decode cX11_place 148 = .ok (.goto (-100), 3) := by decide +kernel
theorem dX11_place_151 : decode cX11_place 151 = .ok (.iload_n 3, 1) := by decide +kernel
theorem dX11_place_152 : decode cX11_place 152 = .ok (.ireturn, 1) := by decide +kernel
theorem dX11_worst_0 : decode cX11_worst 0 = .ok (.aload_n 0, 1) := by decide +kernel
theorem dX11_worst_1 : decode cX11_worst 1 = .ok (.aload_n 0, 1) := by decide +kernel
theorem dX11_worst_2 : decode cX11_worst 2 = .ok (.iload_n 1, 1) := by decide +kernel
theorem dX11_worst_3 : decode cX11_worst 3 = .ok (.i2l, 1) := by decide +kernel
theorem dX11_worst_4 : decode cX11_worst 4 = .ok (.invokevirtual 363, 3) := by decide +kernel
theorem dX11_worst_7 : decode cX11_worst 7 = .ok (.ifCond .ne 7, 3) := by decide +kernel
theorem dX11_worst_10 : decode cX11_worst 10 = .ok (.iconst 1, 1) := by decide +kernel
theorem dX11_worst_11 : decode cX11_worst 11 = .ok (.goto 31, 3) := by decide +kernel
theorem dX11_worst_14 : decode cX11_worst 14 = .ok (.aload_n 0, 1) := by decide +kernel
theorem dX11_worst_15 : decode cX11_worst 15 = .ok (.iload_n 1, 1) := by decide +kernel
theorem dX11_worst_16 : decode cX11_worst 16 = .ok (.iconst 0, 1) := by decide +kernel
theorem dX11_worst_17 : decode cX11_worst 17 = .ok (.invokevirtual 283, 3) := by decide +kernel
theorem dX11_worst_20 : decode cX11_worst 20 = .ok (.ifCond .ne 7, 3) := by decide +kernel
theorem dX11_worst_23 : decode cX11_worst 23 = .ok (.iconst 2, 1) := by decide +kernel
theorem dX11_worst_24 : decode cX11_worst 24 = .ok (.goto 18, 3) := by decide +kernel
theorem dX11_worst_27 : decode cX11_worst 27 = .ok (.iload_n 2, 1) := by decide +kernel
theorem dX11_worst_28 : decode cX11_worst 28 = .ok (.i2l, 1) := by decide +kernel
theorem dX11_worst_29 : decode cX11_worst 29 = .ok (.lconst 0, 1) := by decide +kernel
theorem dX11_worst_30 : decode cX11_worst 30 = .ok (.lconst 1, 1) := by decide +kernel
theorem dX11_worst_31 : decode cX11_worst 31 = .ok (.invokestatic 131, 3) := by decide +kernel
theorem dX11_worst_34 : decode cX11_worst 34 = .ok (.ifCond .eq 7, 3) := by decide +kernel
theorem dX11_worst_37 : decode cX11_worst 37 = .ok (.iconst 0, 1) := by decide +kernel
theorem dX11_worst_38 : decode cX11_worst 38 = .ok (.goto 4, 3) := by decide +kernel
theorem dX11_worst_41 : decode cX11_worst 41 = .ok (.iconst 3, 1) := by decide +kernel
theorem dX11_worst_42 : decode cX11_worst 42 = .ok (.putfield 70, 3) := by decide +kernel
theorem dX11_worst_45 : decode cX11_worst 45 = .ok (.aload_n 0, 1) := by decide +kernel
theorem dX11_worst_46 : decode cX11_worst 46 = .ok (.getfield 70, 3) := by decide +kernel
theorem dX11_worst_49 : decode cX11_worst 49 = .ok (.ifCond .le 5, 3) := by decide +kernel
theorem dX11_worst_52 : decode cX11_worst 52 = .ok (.iconst 0, 1) := by decide +kernel
theorem dX11_worst_53 : decode cX11_worst 53 = .ok (.ireturn, 1) := by decide +kernel
theorem dX11_worst_54 : decode cX11_worst 54 = .ok (.iconst (-1), 1) := by decide +kernel
theorem dX11_worst_55 : decode cX11_worst 55 = .ok (.istore_n 3, 1) := by decide +kernel
theorem dX11_worst_56 : decode cX11_worst 56 = .ok (.iconst (-1), 1) := by decide +kernel
theorem dX11_worst_57 : decode cX11_worst 57 = .ok (.istore 4, 2) := by decide +kernel
theorem dX11_worst_59 : decode cX11_worst 59 = .ok (.iconst 0, 1) := by decide +kernel
theorem dX11_worst_60 : decode cX11_worst 60 = .ok (.istore 5, 2) := by decide +kernel
theorem dX11_worst_62 : decode cX11_worst 62 = .ok (.iload 5, 2) := by decide +kernel
theorem dX11_worst_64 : decode cX11_worst 64 = .ok (.aload_n 0, 1) := by decide +kernel
theorem dX11_worst_65 : decode cX11_worst 65 = .ok (.getfield 9, 3) := by decide +kernel
theorem dX11_worst_68 : decode cX11_worst 68 = .ok (.iconst 1, 1) := by decide +kernel
theorem dX11_worst_69 : decode cX11_worst 69 = .ok (.iaload, 1) := by decide +kernel
theorem dX11_worst_70 : decode cX11_worst 70 = .ok (.if_icmp .ge 91, 3) := by decide +kernel
theorem dX11_worst_73 : decode cX11_worst 73 = .ok (.iconst 0, 1) := by decide +kernel
theorem dX11_worst_74 : decode cX11_worst 74 = .ok (.istore 6, 2) := by decide +kernel
theorem dX11_worst_76 : decode cX11_worst 76 = .ok (.iload 6, 2) := by decide +kernel
theorem dX11_worst_78 : decode cX11_worst 78 = .ok (.aload_n 0, 1) := by decide +kernel
theorem dX11_worst_79 : decode cX11_worst 79 = .ok (.getfield 9, 3) := by decide +kernel
theorem dX11_worst_82 : decode cX11_worst 82 = .ok (.iconst 2, 1) := by decide +kernel
theorem dX11_worst_83 : decode cX11_worst 83 = .ok (.iaload, 1) := by decide +kernel
theorem dX11_worst_84 : decode cX11_worst 84 = .ok (.if_icmp .ge 71, 3) := by decide +kernel
theorem dX11_worst_87 : decode cX11_worst 87 = .ok (.aload_n 0, 1) := by decide +kernel
theorem dX11_worst_88 : decode cX11_worst 88 = .ok (.iload_n 1, 1) := by decide +kernel
theorem dX11_worst_89 : decode cX11_worst 89 = .ok (.iload 5, 2) := by decide +kernel
theorem dX11_worst_91 : decode cX11_worst 91 = .ok (.iload 6, 2) := by decide +kernel
theorem dX11_worst_93 : decode cX11_worst 93 = .ok (.iconst 0, 1) := by decide +kernel
theorem dX11_worst_94 : decode cX11_worst 94 = .ok (.invokevirtual 479, 3) := by decide +kernel
theorem dX11_worst_97 : decode cX11_worst 97 = .ok (.aload_n 0, 1) := by decide +kernel
theorem dX11_worst_98 : decode cX11_worst 98 = .ok (.getfield 468, 3) := by decide +kernel
theorem dX11_worst_101 : decode cX11_worst 101 = .ok (.iconst (-1), 1) := by decide +kernel
theorem dX11_worst_102 : decode cX11_worst 102 = .ok (.if_icmp .ne 7, 3) := by decide +kernel
theorem dX11_worst_105 : decode cX11_worst 105 = .ok (.iconst (-1), 1) := by decide +kernel
theorem dX11_worst_106 : decode cX11_worst 106 = .ok (.goto 18, 3) := by decide +kernel
theorem dX11_worst_109 : decode cX11_worst 109 = .ok (.aload_n 0, 1) := by decide +kernel
theorem dX11_worst_110 : decode cX11_worst 110 = .ok (.getfield 471, 3) := by decide +kernel
theorem dX11_worst_113 : decode cX11_worst 113 = .ok (.aload_n 0, 1) := by decide +kernel
theorem dX11_worst_114 : decode cX11_worst 114 = .ok (.iload 5, 2) := by decide +kernel
theorem dX11_worst_116 : decode cX11_worst 116 = .ok (.aload_n 0, 1) := by decide +kernel
theorem dX11_worst_117 : decode cX11_worst 117 = .ok (.getfield 468, 3) := by decide +kernel
theorem dX11_worst_120 : decode cX11_worst 120 = .ok (.invokevirtual 487, 3) := by decide +kernel
theorem dX11_worst_123 : decode cX11_worst 123 = .ok (.imul, 1) := by decide +kernel
theorem dX11_worst_124 : decode cX11_worst 124 = .ok (.istore 7, 2) := by decide +kernel
theorem dX11_worst_126 : decode cX11_worst 126 = .ok (.iload 7, 2) := by decide +kernel
theorem dX11_worst_128 : decode cX11_worst 128 = .ok (.iload 4, 2) := by decide +kernel
theorem dX11_worst_130 : decode cX11_worst 130 = .ok (.if_icmp .gt 6, 3) := by decide +kernel
theorem dX11_worst_133 : decode cX11_worst 133 = .ok (.goto 16, 3) := by decide +kernel
theorem dX11_worst_136 : decode cX11_worst 136 = .ok (.bipush 10, 2) := by decide +kernel
theorem dX11_worst_138 : decode cX11_worst 138 = .ok (.iload 5, 2) := by decide +kernel
theorem dX11_worst_140 : decode cX11_worst 140 = .ok (.imul, 1) := by decide +kernel
theorem dX11_worst_141 : decode cX11_worst 141 = .ok (.iload 6, 2) := by decide +kernel
theorem dX11_worst_143 : decode cX11_worst 143 = .ok (.iadd, 1) := by decide +kernel
theorem dX11_worst_144 : decode cX11_worst 144 = .ok (.istore_n 3, 1) := by decide +kernel
theorem dX11_worst_145 : decode cX11_worst 145 = .ok (.iload 7, 2) := by decide +kernel
theorem dX11_worst_147 : decode cX11_worst 147 = .ok (.istore 4, 2) := by decide +kernel
theorem dX11_worst_149 : decode cX11_worst 149 = .ok (.iinc 6 1, 3) := by decide +kernel
theorem dX11_worst_152 : decode cX11_worst 152 = .ok (.goto (-76), 3) := by decide +kernel
theorem dX11_worst_155 : decode cX11_worst 155 = .ok (.iinc 5 1, 3) := by decide +kernel
theorem dX11_worst_158 : decode cX11_worst 158 = .ok (.goto (-96), 3) := by decide +kernel
theorem dX11_worst_161 : decode cX11_worst 161 = .ok (.iload_n 2, 1) := by decide +kernel
theorem dX11_worst_162 : decode cX11_worst 162 = .ok (.ifCond .ne 7, 3) := by decide +kernel
theorem dX11_worst_165 : decode cX11_worst 165 = .ok (.iload_n 3, 1) := by decide +kernel
theorem dX11_worst_166 : decode cX11_worst 166 = .ok (.goto 5, 3) := by decide +kernel
theorem dX11_worst_169 : decode cX11_worst 169 = .ok (.iload 4, 2) := by decide +kernel
theorem dX11_worst_171 : decode cX11_worst 171 = .ok (.ireturn, 1) := by decide +kernel
theorem dX11_both_0 : decode cX11_both 0 = .ok (.aload_n 0, 1) := by decide +kernel
theorem dX11_both_1 : decode cX11_both 1 = .ok (.aload_n 0, 1) := by decide +kernel
theorem dX11_both_2 : decode cX11_both 2 = .ok (.iload_n 1, 1) := by decide +kernel
theorem dX11_both_3 : decode cX11_both 3 = .ok (.i2l, 1) := by decide +kernel
theorem dX11_both_4 : decode cX11_both 4 = .ok (.invokevirtual 363, 3) := by decide +kernel
theorem dX11_both_7 : decode cX11_both 7 = .ok (.ifCond .eq 37, 3) := by decide +kernel
theorem dX11_both_10 : decode cX11_both 10 = .ok (.aload_n 0, 1) := by decide +kernel
theorem dX11_both_11 : decode cX11_both 11 = .ok (.iload_n 2, 1) := by decide +kernel
theorem dX11_both_12 : decode cX11_both 12 = .ok (.i2l, 1) := by decide +kernel
theorem dX11_both_13 : decode cX11_both 13 = .ok (.invokevirtual 363, 3) := by decide +kernel
theorem dX11_both_16 : decode cX11_both 16 = .ok (.ifCond .eq 28, 3) := by decide +kernel
theorem dX11_both_19 : decode cX11_both 19 = .ok (.aload_n 0, 1) := by decide +kernel
theorem dX11_both_20 : decode cX11_both 20 = .ok (.iload_n 3, 1) := by decide +kernel
theorem dX11_both_21 : decode cX11_both 21 = .ok (.i2l, 1) := by decide +kernel
theorem dX11_both_22 : decode cX11_both 22 = .ok (.iload 5, 2) := by decide +kernel
theorem dX11_both_24 : decode cX11_both 24 = .ok (.i2l, 1) := by decide +kernel
theorem dX11_both_25 : decode cX11_both 25 = .ok (.invokevirtual 373, 3) := by decide +kernel
theorem dX11_both_28 : decode cX11_both 28 = .ok (.ifCond .eq 16, 3) := by decide +kernel
theorem dX11_both_31 : decode cX11_both 31 = .ok (.aload_n 0, 1) := by decide +kernel
theorem dX11_both_32 : decode cX11_both 32 = .ok (.iload 4, 2) := by decide +kernel
theorem dX11_both_34 : decode cX11_both 34 = .ok (.i2l, 1) := by decide +kernel
theorem dX11_both_35 : decode cX11_both 35 = .ok (.iload 5, 2) := by decide +kernel
theorem dX11_both_37 : decode cX11_both 37 = .ok (.i2l, 1) := by decide +kernel
theorem dX11_both_38 : decode cX11_both 38 = .ok (.invokevirtual 373, 3) := by decide +kernel
theorem dX11_both_41 : decode cX11_both 41 = .ok (.ifCond .ne 7, 3) := by decide +kernel
theorem dX11_both_44 : decode cX11_both 44 = .ok (.iconst 1, 1) := by decide +kernel
theorem dX11_both_45 : decode cX11_both 45 = .ok (.goto 54, 3) := by decide +kernel
theorem dX11_both_48 : decode cX11_both 48 = .ok (.aload_n 0, 1) := by decide +kernel
theorem dX11_both_49 : decode cX11_both 49 = .ok (.iload_n 1, 1) := by decide +kernel
theorem dX11_both_50 : decode cX11_both 50 = .ok (.iconst 0, 1) := by decide +kernel
theorem dX11_both_51 : decode cX11_both 51 = .ok (.invokevirtual 283, 3) := by decide +kernel
theorem dX11_both_54 : decode cX11_both 54 = .ok (.ifCond .eq 12, 3) := by decide +kernel
theorem dX11_both_57 : decode cX11_both 57 = .ok (.aload_n 0, 1) := by decide +kernel
theorem dX11_both_58 : decode cX11_both 58 = .ok (.iload_n 2, 1) := by decide +kernel
theorem dX11_both_59 : decode cX11_both 59 = .ok (.iconst 0, 1) := by decide +kernel
theorem dX11_both_60 : decode cX11_both 60 = .ok (.invokevirtual 283, 3) := by decide +kernel
theorem dX11_both_63 : decode cX11_both 63 = .ok (.ifCond .ne 7, 3) := by decide +kernel
theorem dX11_both_66 : decode cX11_both 66 = .ok (.iconst 2, 1) := by decide +kernel
theorem dX11_both_67 : decode cX11_both 67 = .ok (.goto 32, 3) := by decide +kernel
theorem dX11_both_70 : decode cX11_both 70 = .ok (.iload_n 1, 1) := by decide +kernel
theorem dX11_both_71 : decode cX11_both 71 = .ok (.iload_n 2, 1) := by decide +kernel
theorem dX11_both_72 : decode cX11_both 72 = .ok (.if_icmp .eq 22, 3) := by decide +kernel
theorem dX11_both_75 : decode cX11_both 75 = .ok (.iload_n 3, 1) := by decide +kernel
theorem dX11_both_76 : decode cX11_both 76 = .ok (.iload 4, 2) := by decide +kernel
theorem dX11_both_78 : decode cX11_both 78 = .ok (.if_icmp .eq 16, 3) := by decide +kernel
theorem dX11_both_81 : decode cX11_both 81 = .ok (.iload 6, 2) := by decide +kernel
theorem dX11_both_83 : decode cX11_both 83 = .ok (.i2l, 1) := by decide +kernel
theorem dX11_both_84 : decode cX11_both 84 = .ok (.lconst 0, 1) := by decide +kernel
theorem dX11_both_85 : decode cX11_both 85 = .ok (.ldc2_w 371, 3) := by decide +kernel
theorem dX11_both_88 : decode cX11_both 88 = .ok (.invokestatic 131, 3) := by decide +kernel
theorem dX11_both_91 : decode cX11_both 91 = .ok (.ifCond .ne 7, 3) := by decide +kernel
theorem dX11_both_94 : decode cX11_both 94 = .ok (.iconst 3, 1) := by decide +kernel
theorem dX11_both_95 : decode cX11_both 95 = .ok (.goto 4, 3) := by decide +kernel
theorem dX11_both_98 : decode cX11_both 98 = .ok (.iconst 0, 1) := by decide +kernel
theorem dX11_both_99 : decode cX11_both 99 = .ok (.putfield 70, 3) := by decide +kernel
theorem dX11_both_102 : decode cX11_both 102 = .ok (.aload_n 0, 1) := by decide +kernel
theorem dX11_both_103 : decode cX11_both 103 = .ok (.getfield 70, 3) := by decide +kernel
theorem dX11_both_106 : decode cX11_both 106 = .ok (.ifCond .le 5, 3) := by decide +kernel
theorem dX11_both_109 : decode cX11_both 109 = .ok (.iconst 0, 1) := by decide +kernel
theorem dX11_both_110 : decode cX11_both 110 = .ok (.ireturn, 1) := by decide +kernel
theorem dX11_both_111 : decode cX11_both 111 = .ok (.iconst 0, 1) := by decide +kernel
theorem dX11_both_112 : decode cX11_both 112 = .ok (.istore 7, 2) := by decide +kernel
theorem dX11_both_114 : decode cX11_both 114 = .ok (.iload 7, 2) := by decide +kernel
theorem dX11_both_116 : decode cX11_both 116 = .ok (.bipush 60, 2) := by decide +kernel
theorem dX11_both_118 : decode cX11_both 118 = .ok (.if_icmp .gt 30, 3) := by decide +kernel
theorem dX11_both_121 : decode cX11_both 121 = .ok (.aload_n 0, 1) := by decide +kernel
theorem dX11_both_122 : decode cX11_both 122 = .ok (.iload_n 1, 1) := by decide +kernel
theorem dX11_both_123 : decode cX11_both 123 = .ok (.iload_n 3, 1) := by decide +kernel
theorem dX11_both_124 : decode cX11_both 124 = .ok (.iload 5, 2) := by decide +kernel
theorem dX11_both_126 : decode cX11_both 126 = .ok (.iload 7, 2) := by decide +kernel
theorem dX11_both_128 : decode cX11_both 128 = .ok (.invokevirtual 479, 3) := by decide +kernel
theorem dX11_both_131 : decode cX11_both 131 = .ok (.aload_n 0, 1) := by decide +kernel
theorem dX11_both_132 : decode cX11_both 132 = .ok (.getfield 39, 3) := by decide +kernel
theorem dX11_both_135 : decode cX11_both 135 = .ok (.iload 7, 2) := by decide +kernel
theorem dX11_both_137 : decode cX11_both 137 = .ok (.aload_n 0, 1) := by decide +kernel
theorem dX11_both_138 : decode cX11_both 138 = .ok (.getfield 468, 3) := by decide +kernel
theorem dX11_both_141 : decode cX11_both 141 = .ok (.iastore, 1) := by decide +kernel
theorem dX11_both_142 : decode cX11_both 142 = .ok (.iinc 7 1, 3) := by decide +kernel
theorem dX11_both_145 : decode cX11_both 145 = .ok (.goto (-31), 3) := by decide +kernel
theorem dX11_both_148 : decode cX11_both 148 = .ok (.ldc_w 358, 3) := by decide +kernel
theorem dX11_both_151 : decode cX11_both 151 = .ok (.istore 7, 2) := by decide +kernel
theorem dX11_both_153 : decode cX11_both 153 = .ok (.iconst (-1), 1) := by decide +kernel
theorem dX11_both_154 : decode cX11_both 154 = .ok (.istore 8, 2) := by decide +kernel
theorem dX11_both_156 : decode cX11_both 156 = .ok (.iconst (-1), 1) := by decide +kernel
theorem dX11_both_157 : decode cX11_both 157 = .ok (.istore 9, 2) := by decide +kernel
theorem dX11_both_159 : decode cX11_both 159 = .ok (.iconst 0, 1) := by decide +kernel
theorem dX11_both_160 : decode cX11_both 160 = .ok (.istore 10, 2) := by decide +kernel
theorem dX11_both_162 : decode cX11_both 162 = .ok (.iload 10, 2) := by decide +kernel
theorem dX11_both_164 : decode cX11_both 164 = .ok (.bipush 60, 2) := by decide +kernel
theorem dX11_both_166 : decode cX11_both 166 = .ok (.if_icmp .gt 84, 3) := by decide +kernel
theorem dX11_both_169 : decode cX11_both 169 = .ok (.aload_n 0, 1) := by decide +kernel
theorem dX11_both_170 : decode cX11_both 170 = .ok (.iload_n 2, 1) := by decide +kernel
theorem dX11_both_171 : decode cX11_both 171 = .ok (.iload 4, 2) := by decide +kernel
theorem dX11_both_173 : decode cX11_both 173 = .ok (.iload 5, 2) := by decide +kernel
theorem dX11_both_175 : decode cX11_both 175 = .ok (.iload 10, 2) := by decide +kernel
theorem dX11_both_177 : decode cX11_both 177 = .ok (.invokevirtual 479, 3) := by decide +kernel
theorem dX11_both_180 : decode cX11_both 180 = .ok (.iconst 0, 1) := by decide +kernel
theorem dX11_both_181 : decode cX11_both 181 = .ok (.istore 11, 2) := by decide +kernel
theorem dX11_both_183 : decode cX11_both 183 = .ok (.iload 11, 2) := by decide +kernel
theorem dX11_both_185 : decode cX11_both 185 = .ok (.bipush 60, 2) := by decide +kernel
theorem dX11_both_187 : decode cX11_both 187 = .ok (.if_icmp .gt 57, 3) := by decide +kernel
theorem dX11_both_190 : decode cX11_both 190 = .ok (.aload_n 0, 1) := by decide +kernel
theorem dX11_both_191 : decode cX11_both 191 = .ok (.getfield 468, 3) := by decide +kernel
theorem dX11_both_194 : decode cX11_both 194 = .ok (.iconst (-1), 1) := by decide +kernel
theorem dX11_both_195 : decode cX11_both 195 = .ok (.if_icmp .eq 43, 3) := by decide +kernel
theorem dX11_both_198 : decode cX11_both 198 = .ok (.aload_n 0, 1) := by decide +kernel
theorem dX11_both_199 : decode cX11_both 199 = .ok (.getfield 39, 3) := by decide +kernel
theorem dX11_both_202 : decode cX11_both 202 = .ok (.iload 11, 2) := by decide +kernel
theorem dX11_both_204 : decode cX11_both 204 = .ok (.iaload, 1) := by decide +kernel
theorem dX11_both_205 : decode cX11_both 205 = .ok (.aload_n 0, 1) := by decide +kernel
theorem dX11_both_206 : decode cX11_both 206 = .ok (.getfield 468, 3) := by decide +kernel
theorem dX11_both_209 : decode cX11_both 209 = .ok (.if_icmp .ne 29, 3) := by decide +kernel
theorem dX11_both_212 : decode cX11_both 212 = .ok (.aload_n 0, 1) := by decide +kernel
theorem dX11_both_213 : decode cX11_both 213 = .ok (.getfield 468, 3) := by decide +kernel
theorem dX11_both_216 : decode cX11_both 216 = .ok (.iload 7, 2) := by decide +kernel
theorem dX11_both_218 : decode cX11_both 218 = .ok (.if_icmp .lt 6, 3) := by decide +kernel
theorem dX11_both_221 : decode cX11_both 221 = .ok (.goto 17, 3) := by decide +kernel
theorem dX11_both_224 : decode cX11_both 224 = .ok (.aload_n 0, 1) := by decide +kernel
theorem dX11_both_225 : decode cX11_both 225 = .ok (.getfield 468, 3) := by decide +kernel
theorem dX11_both_228 : decode cX11_both 228 = .ok (.istore 7, 2) := by decide +kernel
theorem dX11_both_230 : decode cX11_both 230 = .ok (.iload 11, 2) := by decide +kernel
theorem dX11_both_232 : decode cX11_both 232 = .ok (.istore 8, 2) := by decide +kernel
theorem dX11_both_234 : decode cX11_both 234 = .ok (.iload 10, 2) := by decide +kernel
theorem dX11_both_236 : decode cX11_both 236 = .ok (.istore 9, 2) := by decide +kernel
theorem dX11_both_238 : decode cX11_both 238 = .ok (.iinc 11 1, 3) := by decide +kernel
theorem dX11_both_241 : decode cX11_both 241 = .ok (.goto (-58), 3) := by decide +kernel
theorem dX11_both_244 : decode cX11_both 244 = .ok (.iinc 10 1, 3) := by decide +kernel
theorem dX11_both_247 : decode cX11_both 247 = .ok (.goto (-85), 3) := by decide +kernel
theorem dX11_both_250 : decode cX11_both 250 = .ok (.iload 7, 2) := by decide +kernel
theorem dX11_both_252 : decode cX11_both 252 = .ok (.ldc_w 358, 3) := by decide +kernel
theorem dX11_both_255 : decode cX11_both 255 = .ok (.if_icmp .ne 7, 3) := by decide +kernel
theorem dX11_both_258 : decode cX11_both 258 = .ok (.iconst (-1), 1) := by decide +kernel
theorem dX11_both_259 : decode cX11_both 259 = .ok (.goto 26, 3) := by decide +kernel
theorem dX11_both_262 : decode cX11_both 262 = .ok (.iload 6, 2) := by decide +kernel
theorem dX11_both_264 : decode cX11_both 264 = .ok (.ifCond .ne 8, 3) := by decide +kernel
theorem dX11_both_267 : decode cX11_both 267 = .ok (.iload 7, 2) := by decide +kernel
theorem dX11_both_269 : decode cX11_both 269 = .ok (.goto 16, 3) := by decide +kernel
theorem dX11_both_272 : decode cX11_both 272 = .ok (.iload 6, 2) := by decide +kernel
theorem dX11_both_274 : decode cX11_both 274 = .ok (.iconst 1, 1) := by decide +kernel
theorem dX11_both_275 : decode cX11_both 275 = .ok (.if_icmp .ne 8, 3) := by decide +kernel
theorem dX11_both_278 : decode cX11_both 278 = .ok (.iload 8, 2) := by decide +kernel
theorem dX11_both_280 : decode cX11_both 280 = .ok (.goto 5, 3) := by decide +kernel
theorem dX11_both_283 : decode cX11_both 283 = .ok (.iload 9, 2) := by decide +kernel
theorem dX11_both_285 : decode cX11_both 285 = .ok (.ireturn, 1) := by decide +kernel
theorem dX11_laysFalling_0 : decode cX11_laysFalling 0 = .ok (.aload_n 0, 1) := by decide +kernel
theorem dX11_laysFalling_1 : decode cX11_laysFalling 1 = .ok (.invokevirtual 425, 3) := by decide +kernel
theorem dX11_laysFalling_4 : decode cX11_laysFalling 4 = .ok (.aload_n 0, 1) := by decide +kernel
theorem dX11_laysFalling_5 : decode cX11_laysFalling 5 = .ok (.getfield 42, 3) := by decide +kernel
theorem dX11_laysFalling_8 : decode cX11_laysFalling 8 = .ok (.iconst 0, 1) := by decide +kernel
theorem dX11_laysFalling_9 : decode cX11_laysFalling 9 = .ok (.iconst 0, 1) := by decide +kernel
theorem dX11_laysFalling_10 : decode cX11_laysFalling 10 = .ok (.iastore, 1) := by decide +kernel
theorem dX11_laysFalling_11 : decode cX11_laysFalling 11 = .ok (.iconst 1, 1) := by decide +kernel
theorem dX11_laysFalling_12 : decode cX11_laysFalling 12 = .ok (.istore_n 1, 1) := by decide +kernel
theorem dX11_laysFalling_13 : decode cX11_laysFalling 13 = .ok (.iload_n 1, 1) := by decide +kernel
theorem dX11_laysFalling_14 : decode cX11_laysFalling 14 = .ok (.bipush 60, 2) := by decide +kernel
theorem dX11_laysFalling_16 : decode cX11_laysFalling 16 = .ok (.if_icmp .gt 23, 3) := by decide +kernel
theorem dX11_laysFalling_19 : decode cX11_laysFalling 19 = .ok (.aload_n 0, 1) := by decide +kernel
theorem dX11_laysFalling_20 : decode cX11_laysFalling 20 = .ok (.invokevirtual 401, 3) := by decide +kernel
theorem dX11_laysFalling_23 : decode cX11_laysFalling 23 = .ok (.aload_n 0, 1) := by decide +kernel
theorem dX11_laysFalling_24 : decode cX11_laysFalling 24 = .ok (.getfield 42, 3) := by decide +kernel
theorem dX11_laysFalling_27 : decode cX11_laysFalling 27 = .ok (.iload_n 1, 1) := by decide +kernel
theorem dX11_laysFalling_28 : decode cX11_laysFalling 28 = .ok (.aload_n 0, 1) := by decide +kernel
theorem dX11_laysFalling_29 : decode cX11_laysFalling 29 = .ok (.getfield 342, 3) := by decide +kernel
theorem dX11_laysFalling_32 : decode cX11_laysFalling 32 = .ok (.iastore, 1) := by decide +kernel
theorem dX11_laysFalling_33 : decode cX11_laysFalling 33 = .ok (.iinc 1 1, 3) := by decide +kernel
theorem dX11_laysFalling_36 : decode cX11_laysFalling 36 = .ok (.goto (-23), 3) := by decide +kernel
theorem dX11_laysFalling_39 : decode cX11_laysFalling 39 = .ok (.aload_n 0, 1) := by decide +kernel
theorem dX11_laysFalling_40 : decode cX11_laysFalling 40 = .ok (.invokevirtual 440, 3) := by decide +kernel
theorem dX11_laysFalling_43 : decode cX11_laysFalling 43 = .ok (.return_, 1) := by decide +kernel
theorem dX11_allColumns_0 : decode cX11_allColumns 0 = .ok (.iconst 1, 1) := by decide +kernel
theorem dX11_allColumns_1 : decode cX11_allColumns 1 = .ok (.aload_n 0, 1) := by decide +kernel
theorem dX11_allColumns_2 : decode cX11_allColumns 2 = .ok (.getfield 9, 3) := by decide +kernel
theorem dX11_allColumns_5 : decode cX11_allColumns 5 = .ok (.iconst 1, 1) := by decide +kernel
theorem dX11_allColumns_6 : decode cX11_allColumns 6 = .ok (.iaload, 1) := by decide +kernel
theorem dX11_allColumns_7 : decode cX11_allColumns 7 = .ok (.ishl, 1) := by decide +kernel
theorem dX11_allColumns_8 : decode cX11_allColumns 8 = .ok (.iconst 1, 1) := by decide +kernel
theorem dX11_allColumns_9 : decode cX11_allColumns 9 = .ok (.isub, 1) := by decide +kernel
theorem dX11_allColumns_10 : decode cX11_allColumns 10 = .ok (.ireturn, 1) := by decide +kernel
theorem dX11_beside_0 : decode cX11_beside 0 = .ok (.iload_n 1, 1) := by decide +kernel
theorem dX11_beside_1 : decode cX11_beside 1 = .ok (.iload_n 1, 1) := by decide +kernel
theorem dX11_beside_2 : decode cX11_beside 2 = .ok (.iconst 1, 1) := by decide +kernel
theorem dX11_beside_3 : decode cX11_beside 3 = .ok (.ishl, 1) := by decide +kernel
theorem dX11_beside_4 : decode cX11_beside 4 = .ok (.ior, 1) := by decide +kernel
theorem dX11_beside_5 : decode cX11_beside 5 = .ok (.iload_n 1, 1) := by decide +kernel
theorem dX11_beside_6 : decode cX11_beside 6 = .ok (.iconst 1, 1) := by decide +kernel
theorem dX11_beside_7 : decode cX11_beside 7 = .ok (.ishr, 1) := by decide +kernel
theorem dX11_beside_8 : decode cX11_beside 8 = .ok (.ior, 1) := by decide +kernel
theorem dX11_beside_9 : decode cX11_beside 9 = .ok (.aload_n 0, 1) := by decide +kernel
theorem dX11_beside_10 : decode cX11_beside 10 = .ok (.invokevirtual 490, 3) := by decide +kernel
theorem dX11_beside_13 : decode cX11_beside 13 = .ok (.iand, 1) := by decide +kernel
theorem dX11_beside_14 : decode cX11_beside 14 = .ok (.ireturn, 1) := by decide +kernel
theorem dX11_laysComes_0 : decode cX11_laysComes 0 = .ok (.aload_n 0, 1) := by decide +kernel
theorem dX11_laysComes_1 : decode cX11_laysComes 1 = .ok (.invokevirtual 493, 3) := by decide +kernel
theorem dX11_laysComes_4 : decode cX11_laysComes 4 = .ok (.aload_n 0, 1) := by decide +kernel
theorem dX11_laysComes_5 : decode cX11_laysComes 5 = .ok (.getfield 45, 3) := by decide +kernel
theorem dX11_laysComes_8 : decode cX11_laysComes 8 = .ok (.iconst 0, 1) := by decide +kernel
theorem dX11_laysComes_9 : decode cX11_laysComes 9 = .ok (.iconst 1, 1) := by decide +kernel
theorem dX11_laysComes_10 : decode cX11_laysComes 10 = .ok (.iload_n 1, 1) := by decide +kernel
theorem dX11_laysComes_11 : decode cX11_laysComes 11 = .ok (.ishl, 1) := by decide +kernel
theorem dX11_laysComes_12 : decode cX11_laysComes 12 = .ok (.iastore, 1) := by decide +kernel
theorem dX11_laysComes_13 : decode cX11_laysComes 13 = .ok (.iconst 1, 1) := by decide +kernel
theorem dX11_laysComes_14 : decode cX11_laysComes 14 = .ok (.istore_n 2, 1) := by decide +kernel
theorem dX11_laysComes_15 : decode cX11_laysComes 15 = .ok (.iload_n 2, 1) := by decide +kernel
theorem dX11_laysComes_16 : decode cX11_laysComes 16 = .ok (.bipush 60, 2) := by decide +kernel
theorem dX11_laysComes_18 : decode cX11_laysComes 18 = .ok (.if_icmp .gt 36, 3) := by decide +kernel
theorem dX11_laysComes_21 : decode cX11_laysComes 21 = .ok (.aload_n 0, 1) := by decide +kernel
theorem dX11_laysComes_22 : decode cX11_laysComes 22 = .ok (.getfield 45, 3) := by decide +kernel
theorem dX11_laysComes_25 : decode cX11_laysComes 25 = .ok (.iload_n 2, 1) := by decide +kernel
theorem dX11_laysComes_26 : decode cX11_laysComes 26 = .ok (.aload_n 0, 1) := by decide +kernel
theorem dX11_laysComes_27 : decode cX11_laysComes 27 = .ok (.aload_n 0, 1) := by decide +kernel
theorem dX11_laysComes_28 : decode cX11_laysComes 28 = .ok (.getfield 45, 3) := by decide +kernel
theorem dX11_laysComes_31 : decode cX11_laysComes 31 = .ok (.iload_n 2, 1) := by decide +kernel
theorem dX11_laysComes_32 : decode cX11_laysComes 32 = .ok (.iconst 1, 1) := by decide +kernel
theorem dX11_laysComes_33 : decode cX11_laysComes 33 = .ok (.isub, 1) := by decide +kernel
theorem dX11_laysComes_34 : decode cX11_laysComes 34 = .ok (.iaload, 1) := by decide +kernel
theorem dX11_laysComes_35 : decode cX11_laysComes 35 = .ok (.invokevirtual 496, 3) := by decide +kernel
theorem dX11_laysComes_38 : decode cX11_laysComes 38 = .ok (.aload_n 0, 1) := by decide +kernel
theorem dX11_laysComes_39 : decode cX11_laysComes 39 = .ok (.getfield 42, 3) := by decide +kernel
theorem dX11_laysComes_42 : decode cX11_laysComes 42 = .ok (.iload_n 2, 1) := by decide +kernel
theorem dX11_laysComes_43 : decode cX11_laysComes 43 = .ok (.iaload, 1) := by decide +kernel
theorem dX11_laysComes_44 : decode cX11_laysComes 44 = .ok (.iconst (-1), 1) := by decide +kernel
theorem dX11_laysComes_45 : decode cX11_laysComes 45 = .ok (.ixor, 1) := by decide +kernel
theorem dX11_laysComes_46 : decode cX11_laysComes 46 = .ok (.iand, 1) := by decide +kernel
theorem dX11_laysComes_47 : decode cX11_laysComes 47 = .ok (.iastore, 1) := by decide +kernel
theorem dX11_laysComes_48 : decode cX11_laysComes 48 = .ok (.iinc 2 1, 3) := by decide +kernel
theorem dX11_laysComes_51 : decode cX11_laysComes 51 = .ok (.goto (-36), 3) := by decide +kernel
theorem dX11_laysComes_54 : decode cX11_laysComes 54 = .ok (.return_, 1) := by decide +kernel
theorem dX11_laysWay_0 : decode cX11_laysWay 0 = .ok (.aload_n 0, 1) := by decide +kernel
theorem dX11_laysWay_1 : decode cX11_laysWay 1 = .ok (.iload_n 1, 1) := by decide +kernel
theorem dX11_laysWay_2 : decode cX11_laysWay 2 = .ok (.invokevirtual 499, 3) := by decide +kernel
theorem dX11_laysWay_5 : decode cX11_laysWay 5 = .ok (.iconst 0, 1) := by decide +kernel
theorem dX11_laysWay_6 : decode cX11_laysWay 6 = .ok (.istore_n 3, 1) := by decide +kernel
theorem dX11_laysWay_7 : decode cX11_laysWay 7 = .ok (.iload_n 3, 1) := by decide +kernel
theorem dX11_laysWay_8 : decode cX11_laysWay 8 = .ok (.bipush 60, 2) := by decide +kernel
theorem dX11_laysWay_10 : decode cX11_laysWay 10 = .ok (.if_icmp .gt 22, 3) := by decide +kernel
theorem dX11_laysWay_13 : decode cX11_laysWay 13 = .ok (.aload_n 0, 1) := by decide +kernel
theorem dX11_laysWay_14 : decode cX11_laysWay 14 = .ok (.getfield 45, 3) := by decide +kernel
theorem dX11_laysWay_17 : decode cX11_laysWay 17 = .ok (.iload_n 3, 1) := by decide +kernel
theorem dX11_laysWay_18 : decode cX11_laysWay 18 = .ok (.iaload, 1) := by decide +kernel
theorem dX11_laysWay_19 : decode cX11_laysWay 19 = .ok (.iload_n 2, 1) := by decide +kernel
theorem dX11_laysWay_20 : decode cX11_laysWay 20 = .ok (.invokestatic 323, 3) := by decide +kernel
theorem dX11_laysWay_23 : decode cX11_laysWay 23 = .ok (.ifCond .ne 9, 3) := by decide +kernel
theorem dX11_laysWay_26 : decode cX11_laysWay 26 = .ok (.iinc 3 1, 3) := by decide +kernel
theorem dX11_laysWay_29 : decode cX11_laysWay 29 = .ok (.goto (-22), 3) := by decide +kernel
theorem dX11_laysWay_32 : decode cX11_laysWay 32 = .ok (.iload_n 3, 1) := by decide +kernel
theorem dX11_laysWay_33 : decode cX11_laysWay 33 = .ok (.bipush 60, 2) := by decide +kernel
theorem dX11_laysWay_35 : decode cX11_laysWay 35 = .ok (.if_icmp .le 5, 3) := by decide +kernel
theorem dX11_laysWay_38 : decode cX11_laysWay 38 = .ok (.iconst (-1), 1) := by decide +kernel
theorem dX11_laysWay_39 : decode cX11_laysWay 39 = .ok (.ireturn, 1) := by decide +kernel
theorem dX11_laysWay_40 : decode cX11_laysWay 40 = .ok (.aload_n 0, 1) := by decide +kernel
theorem dX11_laysWay_41 : decode cX11_laysWay 41 = .ok (.getfield 48, 3) := by decide +kernel
theorem dX11_laysWay_44 : decode cX11_laysWay 44 = .ok (.iload_n 3, 1) := by decide +kernel
theorem dX11_laysWay_45 : decode cX11_laysWay 45 = .ok (.iconst 1, 1) := by decide +kernel
theorem dX11_laysWay_46 : decode cX11_laysWay 46 = .ok (.iload_n 2, 1) := by decide +kernel
theorem dX11_laysWay_47 : decode cX11_laysWay 47 = .ok (.ishl, 1) := by decide +kernel
theorem dX11_laysWay_48 : decode cX11_laysWay 48 = .ok (.iastore, 1) := by decide +kernel
theorem dX11_laysWay_49 : decode cX11_laysWay 49 = .ok (.iload_n 3, 1) := by decide +kernel
theorem dX11_laysWay_50 : decode cX11_laysWay 50 = .ok (.iconst 1, 1) := by decide +kernel
theorem dX11_laysWay_51 : decode cX11_laysWay 51 = .ok (.isub, 1) := by decide +kernel
theorem dX11_laysWay_52 : decode cX11_laysWay 52 = .ok (.istore 4, 2) := by decide +kernel
theorem dX11_laysWay_54 : decode cX11_laysWay 54 = .ok (.iload 4, 2) := by decide +kernel
theorem dX11_laysWay_56 : decode cX11_laysWay 56 = .ok (.ifCond .lt 37, 3) := by decide +kernel
theorem dX11_laysWay_59 : decode cX11_laysWay 59 = .ok (.aload_n 0, 1) := by decide +kernel
theorem dX11_laysWay_60 : decode cX11_laysWay 60 = .ok (.getfield 48, 3) := by decide +kernel
theorem dX11_laysWay_63 : decode cX11_laysWay 63 = .ok (.iload 4, 2) := by decide +kernel
theorem dX11_laysWay_65 : decode cX11_laysWay 65 = .ok (.aload_n 0, 1) := by decide +kernel
theorem dX11_laysWay_66 : decode cX11_laysWay 66 = .ok (.aload_n 0, 1) := by decide +kernel
theorem dX11_laysWay_67 : decode cX11_laysWay 67 = .ok (.getfield 48, 3) := by decide +kernel
theorem dX11_laysWay_70 : decode cX11_laysWay 70 = .ok (.iload 4, 2) := by decide +kernel
theorem dX11_laysWay_72 : decode cX11_laysWay 72 = .ok (.iconst 1, 1) := by decide +kernel
theorem dX11_laysWay_73 : decode cX11_laysWay 73 = .ok (.iadd, 1) := by decide +kernel
theorem dX11_laysWay_74 : decode cX11_laysWay 74 = .ok (.iaload, 1) := by decide +kernel
theorem dX11_laysWay_75 : decode cX11_laysWay 75 = .ok (.invokevirtual 496, 3) := by decide +kernel
theorem dX11_laysWay_78 : decode cX11_laysWay 78 = .ok (.aload_n 0, 1) := by decide +kernel
theorem dX11_laysWay_79 : decode cX11_laysWay 79 = .ok (.getfield 45, 3) := by decide +kernel
theorem dX11_laysWay_82 : decode cX11_laysWay 82 = .ok (.iload 4, 2) := by decide +kernel
theorem dX11_laysWay_84 : decode cX11_laysWay 84 = .ok (.iaload, 1) := by decide +kernel
theorem dX11_laysWay_85 : decode cX11_laysWay 85 = .ok (.iand, 1) := by decide +kernel
theorem dX11_laysWay_86 : decode cX11_laysWay 86 = .ok (.iastore, 1) := by decide +kernel
theorem dX11_laysWay_87 : decode cX11_laysWay 87 = .ok (.iinc 4 (-1), 3) := by decide +kernel
theorem dX11_laysWay_90 : decode cX11_laysWay 90 = .ok (.goto (-36), 3) := by decide +kernel
theorem dX11_laysWay_93 : decode cX11_laysWay 93 = .ok (.iload_n 1, 1) := by decide +kernel
theorem dX11_laysWay_94 : decode cX11_laysWay 94 = .ok (.istore 4, 2) := by decide +kernel
theorem dX11_laysWay_96 : decode cX11_laysWay 96 = .ok (.iconst 0, 1) := by decide +kernel
theorem dX11_laysWay_97 : decode cX11_laysWay 97 = .ok (.istore 5, 2) := by decide +kernel
theorem dX11_laysWay_99 : decode cX11_laysWay 99 = .ok (.iload 5, 2) := by decide +kernel
theorem dX11_laysWay_101 : decode cX11_laysWay 101 = .ok (.iload_n 3, 1) := by decide +kernel
theorem dX11_laysWay_102 : decode cX11_laysWay 102 = .ok (.if_icmp .gt 66, 3) := by decide +kernel
theorem dX11_laysWay_105 : decode cX11_laysWay 105 = .ok (.iload 5, 2) := by decide +kernel
theorem dX11_laysWay_107 : decode cX11_laysWay 107 = .ok (.ifCond .ne 9, 3) := by decide +kernel
theorem dX11_laysWay_110 : decode cX11_laysWay 110 = .ok (.iconst 1, 1) := by decide +kernel
theorem dX11_laysWay_111 : decode cX11_laysWay 111 = .ok (.iload_n 1, 1) := by decide +kernel
theorem dX11_laysWay_112 : decode cX11_laysWay 112 = .ok (.ishl, 1) := by decide +kernel
theorem dX11_laysWay_113 : decode cX11_laysWay 113 = .ok (.goto 19, 3) := by decide +kernel
theorem dX11_laysWay_116 : decode cX11_laysWay 116 = .ok (.aload_n 0, 1) := by decide +kernel
theorem dX11_laysWay_117 : decode cX11_laysWay 117 = .ok (.iconst 1, 1) := by decide +kernel
theorem dX11_laysWay_118 : decode cX11_laysWay 118 = .ok (.iload 4, 2) := by decide +kernel
theorem dX11_laysWay_120 : decode cX11_laysWay 120 = .ok (.ishl, 1) := by decide +kernel
theorem dX11_laysWay_121 : decode cX11_laysWay 121 = .ok (.invokevirtual 496, 3) := by decide +kernel
theorem dX11_laysWay_124 : decode cX11_laysWay 124 = .ok (.aload_n 0, 1) := by decide +kernel
theorem dX11_laysWay_125 : decode cX11_laysWay 125 = .ok (.getfield 48, 3) := by decide +kernel
theorem dX11_laysWay_128 : decode cX11_laysWay 128 = .ok (.iload 5, 2) := by decide +kernel
theorem dX11_laysWay_130 : decode cX11_laysWay 130 = .ok (.iaload, 1) := by decide +kernel
theorem dX11_laysWay_131 : decode cX11_laysWay 131 = .ok (.iand, 1) := by decide +kernel
theorem dX11_laysWay_132 : decode cX11_laysWay 132 = .ok (.istore 6, 2) := by decide +kernel
theorem dX11_laysWay_134 : decode cX11_laysWay 134 = .ok (.iconst 0, 1) := by decide +kernel
theorem dX11_laysWay_135 : decode cX11_laysWay 135 = .ok (.istore 4, 2) := by decide +kernel
theorem dX11_laysWay_137 : decode cX11_laysWay 137 = .ok (.iload 6, 2) := by decide +kernel
theorem dX11_laysWay_139 : decode cX11_laysWay 139 = .ok (.iload 4, 2) := by decide +kernel
theorem dX11_laysWay_141 : decode cX11_laysWay 141 = .ok (.invokestatic 323, 3) := by decide +kernel
theorem dX11_laysWay_144 : decode cX11_laysWay 144 = .ok (.ifCond .ne 9, 3) := by decide +kernel
theorem dX11_laysWay_147 : decode cX11_laysWay 147 = .ok (.iinc 4 1, 3) := by decide +kernel
theorem dX11_laysWay_150 : decode cX11_laysWay 150 = .ok (.goto (-13), 3) := by decide +kernel
theorem dX11_laysWay_153 : decode cX11_laysWay 153 = .ok (.aload_n 0, 1) := by decide +kernel
theorem dX11_laysWay_154 : decode cX11_laysWay 154 = .ok (.getfield 51, 3) := by decide +kernel
theorem dX11_laysWay_157 : decode cX11_laysWay 157 = .ok (.iload 5, 2) := by decide +kernel
theorem dX11_laysWay_159 : decode cX11_laysWay 159 = .ok (.iload 4, 2) := by decide +kernel
theorem dX11_laysWay_161 : decode cX11_laysWay 161 = .ok (.iastore, 1) := by decide +kernel
theorem dX11_laysWay_162 : decode cX11_laysWay 162 = .ok (.iinc 5 1, 3) := by decide +kernel
theorem dX11_laysWay_165 : decode cX11_laysWay 165 = .ok (.goto (-66), 3) := by decide +kernel
theorem dX11_laysWay_168 : decode cX11_laysWay 168 = .ok (.iload_n 3, 1) := by decide +kernel
theorem dX11_laysWay_169 : decode cX11_laysWay 169 = .ok (.ireturn, 1) := by decide +kernel
theorem dX11_safeWay_0 : decode cX11_safeWay 0 = .ok (.aload_n 0, 1) := by decide +kernel
theorem dX11_safeWay_1 : decode cX11_safeWay 1 = .ok (.aload_n 0, 1) := by decide +kernel
theorem dX11_safeWay_2 : decode cX11_safeWay 2 = .ok (.iload_n 1, 1) := by decide +kernel
theorem dX11_safeWay_3 : decode cX11_safeWay 3 = .ok (.i2l, 1) := by decide +kernel
theorem dX11_safeWay_4 : decode cX11_safeWay 4 = .ok (.invokevirtual 286, 3) := by decide +kernel
theorem dX11_safeWay_7 : decode cX11_safeWay 7 = .ok (.ifCond .eq 12, 3) := by decide +kernel
theorem dX11_safeWay_10 : decode cX11_safeWay 10 = .ok (.aload_n 0, 1) := by decide +kernel
theorem dX11_safeWay_11 : decode cX11_safeWay 11 = .ok (.iload_n 2, 1) := by decide +kernel
theorem dX11_safeWay_12 : decode cX11_safeWay 12 = .ok (.i2l, 1) := by decide +kernel
theorem dX11_safeWay_13 : decode cX11_safeWay 13 = .ok (.invokevirtual 286, 3) := by decide +kernel
theorem dX11_safeWay_16 : decode cX11_safeWay 16 = .ok (.ifCond .ne 7, 3) := by decide +kernel
theorem dX11_safeWay_19 : decode cX11_safeWay 19 = .ok (.iconst 1, 1) := by decide +kernel
theorem dX11_safeWay_20 : decode cX11_safeWay 20 = .ok (.goto 26, 3) := by decide +kernel
theorem dX11_safeWay_23 : decode cX11_safeWay 23 = .ok (.iload_n 3, 1) := by decide +kernel
theorem dX11_safeWay_24 : decode cX11_safeWay 24 = .ok (.ifCond .eq 17, 3) := by decide +kernel
theorem dX11_safeWay_27 : decode cX11_safeWay 27 = .ok (.iload_n 3, 1) := by decide +kernel
theorem dX11_safeWay_28 : decode cX11_safeWay 28 = .ok (.i2l, 1) := by decide +kernel
theorem dX11_safeWay_29 : decode cX11_safeWay 29 = .ok (.ldc2_w 403, 3) := by decide +kernel
theorem dX11_safeWay_32 : decode cX11_safeWay 32 = .ok (.ldc2_w 502, 3) := by decide +kernel
theorem dX11_safeWay_35 : decode cX11_safeWay 35 = .ok (.invokestatic 131, 3) := by decide +kernel
theorem dX11_safeWay_38 : decode cX11_safeWay 38 = .ok (.ifCond .eq 7, 3) := by decide +kernel
theorem dX11_safeWay_41 : decode cX11_safeWay 41 = .ok (.iconst 0, 1) := by decide +kernel
theorem dX11_safeWay_42 : decode cX11_safeWay 42 = .ok (.goto 4, 3) := by decide +kernel
theorem dX11_safeWay_45 : decode cX11_safeWay 45 = .ok (.iconst 2, 1) := by decide +kernel
theorem dX11_safeWay_46 : decode cX11_safeWay 46 = .ok (.putfield 70, 3) := by decide +kernel
theorem dX11_safeWay_49 : decode cX11_safeWay 49 = .ok (.aload_n 0, 1) := by decide +kernel
theorem dX11_safeWay_50 : decode cX11_safeWay 50 = .ok (.getfield 70, 3) := by decide +kernel
theorem dX11_safeWay_53 : decode cX11_safeWay 53 = .ok (.ifCond .le 5, 3) := by decide +kernel
theorem dX11_safeWay_56 : decode cX11_safeWay 56 = .ok (.iconst 0, 1) := by decide +kernel
theorem dX11_safeWay_57 : decode cX11_safeWay 57 = .ok (.ireturn, 1) := by decide +kernel
theorem dX11_safeWay_58 : decode cX11_safeWay 58 = .ok (.aload_n 0, 1) := by decide +kernel
theorem dX11_safeWay_59 : decode cX11_safeWay 59 = .ok (.iload_n 1, 1) := by decide +kernel
theorem dX11_safeWay_60 : decode cX11_safeWay 60 = .ok (.iload_n 2, 1) := by decide +kernel
theorem dX11_safeWay_61 : decode cX11_safeWay 61 = .ok (.invokevirtual 504, 3) := by decide +kernel
theorem dX11_safeWay_64 : decode cX11_safeWay 64 = .ok (.istore 4, 2) := by decide +kernel
theorem dX11_safeWay_66 : decode cX11_safeWay 66 = .ok (.iload 4, 2) := by decide +kernel
theorem dX11_safeWay_68 : decode cX11_safeWay 68 = .ok (.iconst (-1), 1) := by decide +kernel
theorem dX11_safeWay_69 : decode cX11_safeWay 69 = .ok (.if_icmp .eq 7, 3) := by decide +kernel
theorem dX11_safeWay_72 : decode cX11_safeWay 72 = .ok (.iload_n 3, 1) := by decide +kernel
theorem dX11_safeWay_73 : decode cX11_safeWay 73 = .ok (.ifCond .ne 8, 3) := by decide +kernel
theorem dX11_safeWay_76 : decode cX11_safeWay 76 = .ok (.iload 4, 2) := by decide +kernel
theorem dX11_safeWay_78 : decode cX11_safeWay 78 = .ok (.goto 25, 3) := by decide +kernel
theorem dX11_safeWay_81 : decode cX11_safeWay 81 = .ok (.iload_n 3, 1) := by decide +kernel
theorem dX11_safeWay_82 : decode cX11_safeWay 82 = .ok (.bipush 10, 2) := by decide +kernel
theorem dX11_safeWay_84 : decode cX11_safeWay 84 = .ok (.isub, 1) := by decide +kernel
theorem dX11_safeWay_85 : decode cX11_safeWay 85 = .ok (.iload 4, 2) := by decide +kernel
theorem dX11_safeWay_87 : decode cX11_safeWay 87 = .ok (.if_icmp .gt 15, 3) := by decide +kernel
theorem dX11_safeWay_90 : decode cX11_safeWay 90 = .ok (.aload_n 0, 1) := by decide +kernel
theorem dX11_safeWay_91 : decode cX11_safeWay 91 = .ok (.getfield 51, 3) := by decide +kernel
theorem dX11_safeWay_94 : decode cX11_safeWay 94 = .ok (.iload_n 3, 1) := by decide +kernel
theorem dX11_safeWay_95 : decode cX11_safeWay 95 = .ok (.bipush 10, 2) := by decide +kernel
theorem dX11_safeWay_97 : decode cX11_safeWay 97 = .ok (.isub, 1) := by decide +kernel
theorem dX11_safeWay_98 : decode cX11_safeWay 98 = .ok (.iaload, 1) := by decide +kernel
theorem dX11_safeWay_99 : decode cX11_safeWay 99 = .ok (.goto 4, 3) := by decide +kernel
theorem dX11_safeWay_102 : decode cX11_safeWay 102 = .ok (.iconst (-1), 1) := by decide +kernel
theorem dX11_safeWay_103 : decode cX11_safeWay 103 = .ok (.ireturn, 1) := by decide +kernel
theorem dX11_safeWays_0 : decode cX11_safeWays 0 = .ok (.aload_n 0, 1) := by decide +kernel
theorem dX11_safeWays_1 : decode cX11_safeWays 1 = .ok (.aload_n 0, 1) := by decide +kernel
theorem dX11_safeWays_2 : decode cX11_safeWays 2 = .ok (.iload_n 1, 1) := by decide +kernel
theorem dX11_safeWays_3 : decode cX11_safeWays 3 = .ok (.i2l, 1) := by decide +kernel
theorem dX11_safeWays_4 : decode cX11_safeWays 4 = .ok (.invokevirtual 286, 3) := by decide +kernel
theorem dX11_safeWays_7 : decode cX11_safeWays 7 = .ok (.ifCond .eq 12, 3) := by decide +kernel
theorem dX11_safeWays_10 : decode cX11_safeWays 10 = .ok (.aload_n 0, 1) := by decide +kernel
theorem dX11_safeWays_11 : decode cX11_safeWays 11 = .ok (.iload_n 2, 1) := by decide +kernel
theorem dX11_safeWays_12 : decode cX11_safeWays 12 = .ok (.i2l, 1) := by decide +kernel
theorem dX11_safeWays_13 : decode cX11_safeWays 13 = .ok (.invokevirtual 286, 3) := by decide +kernel
theorem dX11_safeWays_16 : decode cX11_safeWays 16 = .ok (.ifCond .ne 7, 3) := by decide +kernel
theorem dX11_safeWays_19 : decode cX11_safeWays 19 = .ok (.iconst 1, 1) := by decide +kernel
theorem dX11_safeWays_20 : decode cX11_safeWays 20 = .ok (.goto 20, 3) := by decide +kernel
theorem dX11_safeWays_23 : decode cX11_safeWays 23 = .ok (.iload_n 3, 1) := by decide +kernel
theorem dX11_safeWays_24 : decode cX11_safeWays 24 = .ok (.i2l, 1) := by decide +kernel
theorem dX11_safeWays_25 : decode cX11_safeWays 25 = .ok (.lconst 0, 1) := by decide +kernel
theorem dX11_safeWays_26 : decode cX11_safeWays 26 = .ok (.ldc2_w 507, 3) := by decide +kernel
theorem dX11_safeWays_29 : decode cX11_safeWays 29 = .ok (.invokestatic 131, 3) := by decide +kernel
theorem dX11_safeWays_32 : decode cX11_safeWays 32 = .ok (.ifCond .eq 7, 3) := by decide +kernel
theorem dX11_safeWays_35 : decode cX11_safeWays 35 = .ok (.iconst 0, 1) := by decide +kernel
theorem dX11_safeWays_36 : decode cX11_safeWays 36 = .ok (.goto 4, 3) := by decide +kernel
theorem dX11_safeWays_39 : decode cX11_safeWays 39 = .ok (.iconst 2, 1) := by decide +kernel
theorem dX11_safeWays_40 : decode cX11_safeWays 40 = .ok (.putfield 70, 3) := by decide +kernel
theorem dX11_safeWays_43 : decode cX11_safeWays 43 = .ok (.aload_n 0, 1) := by decide +kernel
theorem dX11_safeWays_44 : decode cX11_safeWays 44 = .ok (.getfield 70, 3) := by decide +kernel
theorem dX11_safeWays_47 : decode cX11_safeWays 47 = .ok (.ifCond .le 5, 3) := by decide +kernel
theorem dX11_safeWays_50 : decode cX11_safeWays 50 = .ok (.lconst 0, 1) := by decide +kernel
theorem dX11_safeWays_51 : decode cX11_safeWays 51 = .ok (.lreturn, 1) := by decide +kernel
theorem dX11_safeWays_52 : decode cX11_safeWays 52 = .ok (.aload_n 0, 1) := by decide +kernel
theorem dX11_safeWays_53 : decode cX11_safeWays 53 = .ok (.invokevirtual 493, 3) := by decide +kernel
theorem dX11_safeWays_56 : decode cX11_safeWays 56 = .ok (.iconst 0, 1) := by decide +kernel
theorem dX11_safeWays_57 : decode cX11_safeWays 57 = .ok (.istore 4, 2) := by decide +kernel
theorem dX11_safeWays_59 : decode cX11_safeWays 59 = .ok (.iload 4, 2) := by decide +kernel
theorem dX11_safeWays_61 : decode cX11_safeWays 61 = .ok (.bipush 6, 2) := by decide +kernel
theorem dX11_safeWays_63 : decode cX11_safeWays 63 = .ok (.if_icmp .ge 27, 3) := by decide +kernel
theorem dX11_safeWays_66 : decode cX11_safeWays 66 = .ok (.aload_n 0, 1) := by decide +kernel
theorem dX11_safeWays_67 : decode cX11_safeWays 67 = .ok (.getfield 54, 3) := by decide +kernel
theorem dX11_safeWays_70 : decode cX11_safeWays 70 = .ok (.iload 4, 2) := by decide +kernel
theorem dX11_safeWays_72 : decode cX11_safeWays 72 = .ok (.iload 4, 2) := by decide +kernel
theorem dX11_safeWays_74 : decode cX11_safeWays 74 = .ok (.iload_n 1, 1) := by decide +kernel
theorem dX11_safeWays_75 : decode cX11_safeWays 75 = .ok (.if_icmp .ne 7, 3) := by decide +kernel
theorem dX11_safeWays_78 : decode cX11_safeWays 78 = .ok (.lconst 1, 1) := by decide +kernel
theorem dX11_safeWays_79 : decode cX11_safeWays 79 = .ok (.goto 4, 3) := by decide +kernel
theorem dX11_safeWays_82 : decode cX11_safeWays 82 = .ok (.lconst 0, 1) := by decide +kernel
theorem dX11_safeWays_83 : decode cX11_safeWays 83 = .ok (.lastore, 1) := by decide +kernel
theorem dX11_safeWays_84 : decode cX11_safeWays 84 = .ok (.iinc 4 1, 3) := by decide +kernel
theorem dX11_safeWays_87 : decode cX11_safeWays 87 = .ok (.goto (-28), 3) := by decide +kernel
theorem dX11_safeWays_90 : decode cX11_safeWays 90 = .ok (.iconst 1, 1) := by decide +kernel
theorem dX11_safeWays_91 : decode cX11_safeWays 91 = .ok (.istore 4, 2) := by decide +kernel
theorem dX11_safeWays_93 : decode cX11_safeWays 93 = .ok (.iload 4, 2) := by decide +kernel
theorem dX11_safeWays_95 : decode cX11_safeWays 95 = .ok (.iload_n 3, 1) := by decide +kernel
theorem dX11_safeWays_96 : decode cX11_safeWays 96 = .ok (.if_icmp .gt 20, 3) := by decide +kernel
theorem dX11_safeWays_99 : decode cX11_safeWays 99 = .ok (.aload_n 0, 1) := by decide +kernel
theorem dX11_safeWays_100 : decode cX11_safeWays 100 = .ok (.aload_n 0, 1) := by decide +kernel
theorem dX11_safeWays_101 : decode cX11_safeWays 101 = .ok (.getfield 42, 3) := by decide +kernel
theorem dX11_safeWays_104 : decode cX11_safeWays 104 = .ok (.iload 4, 2) := by decide +kernel
theorem dX11_safeWays_106 : decode cX11_safeWays 106 = .ok (.iaload, 1) := by decide +kernel
theorem dX11_safeWays_107 : decode cX11_safeWays 107 = .ok (.invokevirtual 509, 3) := by decide +kernel
theorem dX11_safeWays_110 : decode cX11_safeWays 110 = .ok (.iinc 4 1, 3) := by decide +kernel
theorem dX11_safeWays_113 : decode cX11_safeWays 113 = .ok (.goto (-20), 3) := by decide +kernel
theorem dX11_safeWays_116 : decode cX11_safeWays 116 = .ok (.aload_n 0, 1) := by decide +kernel
theorem dX11_safeWays_117 : decode cX11_safeWays 117 = .ok (.getfield 54, 3) := by decide +kernel
theorem dX11_safeWays_120 : decode cX11_safeWays 120 = .ok (.iload_n 2, 1) := by decide +kernel
theorem dX11_safeWays_121 : decode cX11_safeWays 121 = .ok (.laload, 1) := by decide +kernel
theorem dX11_safeWays_122 : decode cX11_safeWays 122 = .ok (.lreturn, 1) := by decide +kernel
theorem dX11_countsOn_0 : decode cX11_countsOn 0 = .ok (.iconst 0, 1) := by decide +kernel
theorem dX11_countsOn_1 : decode cX11_countsOn 1 = .ok (.istore_n 2, 1) := by decide +kernel
theorem dX11_countsOn_2 : decode cX11_countsOn 2 = .ok (.iload_n 2, 1) := by decide +kernel
theorem dX11_countsOn_3 : decode cX11_countsOn 3 = .ok (.bipush 6, 2) := by decide +kernel
theorem dX11_countsOn_5 : decode cX11_countsOn 5 = .ok (.if_icmp .ge 56, 3) := by decide +kernel
theorem dX11_countsOn_8 : decode cX11_countsOn 8 = .ok (.aload_n 0, 1) := by decide +kernel
theorem dX11_countsOn_9 : decode cX11_countsOn 9 = .ok (.getfield 58, 3) := by decide +kernel
theorem dX11_countsOn_12 : decode cX11_countsOn 12 = .ok (.iload_n 2, 1) := by decide +kernel
theorem dX11_countsOn_13 : decode cX11_countsOn 13 = .ok (.lconst 0, 1) := by decide +kernel
theorem dX11_countsOn_14 : decode cX11_countsOn 14 = .ok (.lastore, 1) := by decide +kernel
theorem dX11_countsOn_15 : decode cX11_countsOn 15 = .ok (.iconst 0, 1) := by decide +kernel
theorem dX11_countsOn_16 : decode cX11_countsOn 16 = .ok (.iload_n 2, 1) := by decide +kernel
theorem dX11_countsOn_17 : decode cX11_countsOn 17 = .ok (.iconst 1, 1) := by decide +kernel
theorem dX11_countsOn_18 : decode cX11_countsOn 18 = .ok (.isub, 1) := by decide +kernel
theorem dX11_countsOn_19 : decode cX11_countsOn 19 = .ok (.invokestatic 318, 3) := by decide +kernel
theorem dX11_countsOn_22 : decode cX11_countsOn 22 = .ok (.istore_n 3, 1) := by decide +kernel
theorem dX11_countsOn_23 : decode cX11_countsOn 23 = .ok (.iload_n 3, 1) := by decide +kernel
theorem dX11_countsOn_24 : decode cX11_countsOn 24 = .ok (.iconst 5, 1) := by decide +kernel
theorem dX11_countsOn_25 : decode cX11_countsOn 25 = .ok (.iload_n 2, 1) := by decide +kernel
theorem dX11_countsOn_26 : decode cX11_countsOn 26 = .ok (.iconst 1, 1) := by decide +kernel
theorem dX11_countsOn_27 : decode cX11_countsOn 27 = .ok (.iadd, 1) := by decide +kernel
theorem dX11_countsOn_28 : decode cX11_countsOn 28 = .ok (.invokestatic 316, 3) := by decide +kernel
theorem dX11_countsOn_31 : decode cX11_countsOn 31 = .ok (.if_icmp .gt 24, 3) := by decide +kernel
theorem dX11_countsOn_34 : decode cX11_countsOn 34 = .ok (.aload_n 0, 1) := by decide +kernel
theorem dX11_countsOn_35 : decode cX11_countsOn 35 = .ok (.getfield 58, 3) := by decide +kernel
theorem dX11_countsOn_38 : decode cX11_countsOn 38 = .ok (.iload_n 2, 1) := by decide +kernel
theorem dX11_countsOn_39 : decode cX11_countsOn 39 = .ok (.dup2, 1) := by decide +kernel
theorem dX11_countsOn_40 : decode cX11_countsOn 40 = .ok (.laload, 1) := by decide +kernel
theorem dX11_countsOn_41 : decode cX11_countsOn 41 = .ok (.aload_n 0, 1) := by decide +kernel
theorem dX11_countsOn_42 : decode cX11_countsOn 42 = .ok (.getfield 54, 3) := by decide +kernel
theorem dX11_countsOn_45 : decode cX11_countsOn 45 = .ok (.iload_n 3, 1) := by decide +kernel
theorem dX11_countsOn_46 : decode cX11_countsOn 46 = .ok (.laload, 1) := by decide +kernel
theorem dX11_countsOn_47 : decode cX11_countsOn 47 = .ok (.ladd, 1) := by decide +kernel
theorem dX11_countsOn_48 : decode cX11_countsOn 48 = .ok (.lastore, 1) := by decide +kernel
theorem dX11_countsOn_49 : decode cX11_countsOn 49 = .ok (.iinc 3 1, 3) := by decide +kernel
theorem dX11_countsOn_52 : decode cX11_countsOn 52 = .ok (.goto (-29), 3) := by decide +kernel
theorem dX11_countsOn_55 : decode cX11_countsOn 55 = .ok (.iinc 2 1, 3) := by decide +kernel
theorem dX11_countsOn_58 : decode cX11_countsOn 58 = .ok (.goto (-56), 3) := by decide +kernel
theorem dX11_countsOn_61 : decode cX11_countsOn 61 = .ok (.iconst 0, 1) := by decide +kernel
theorem dX11_countsOn_62 : decode cX11_countsOn 62 = .ok (.istore_n 2, 1) := by decide +kernel
theorem dX11_countsOn_63 : decode cX11_countsOn 63 = .ok (.iload_n 2, 1) := by decide +kernel
theorem dX11_countsOn_64 : decode cX11_countsOn 64 = .ok (.bipush 6, 2) := by decide +kernel
theorem dX11_countsOn_66 : decode cX11_countsOn 66 = .ok (.if_icmp .ge 42, 3) := by decide +kernel
theorem dX11_countsOn_69 : decode cX11_countsOn 69 = .ok (.aload_n 0, 1) := by decide +kernel
theorem dX11_countsOn_70 : decode cX11_countsOn 70 = .ok (.getfield 54, 3) := by decide +kernel
theorem dX11_countsOn_73 : decode cX11_countsOn 73 = .ok (.iload_n 2, 1) := by decide +kernel
theorem dX11_countsOn_74 : decode cX11_countsOn 74 = .ok (.aload_n 0, 1) := by decide +kernel
theorem dX11_countsOn_75 : decode cX11_countsOn 75 = .ok (.iload_n 2, 1) := by decide +kernel
theorem dX11_countsOn_76 : decode cX11_countsOn 76 = .ok (.i2l, 1) := by decide +kernel
theorem dX11_countsOn_77 : decode cX11_countsOn 77 = .ok (.invokevirtual 286, 3) := by decide +kernel
theorem dX11_countsOn_80 : decode cX11_countsOn 80 = .ok (.ifCond .eq 20, 3) := by decide +kernel
theorem dX11_countsOn_83 : decode cX11_countsOn 83 = .ok (.iload_n 1, 1) := by decide +kernel
theorem dX11_countsOn_84 : decode cX11_countsOn 84 = .ok (.iload_n 2, 1) := by decide +kernel
theorem dX11_countsOn_85 : decode cX11_countsOn 85 = .ok (.invokestatic 323, 3) := by decide +kernel
theorem dX11_countsOn_88 : decode cX11_countsOn 88 = .ok (.ifCond .ne 12, 3) := by decide +kernel
theorem dX11_countsOn_91 : decode cX11_countsOn 91 = .ok (.aload_n 0, 1) := by decide +kernel
theorem dX11_countsOn_92 : decode cX11_countsOn 92 = .ok (.getfield 58, 3) := by decide +kernel
theorem dX11_countsOn_95 : decode cX11_countsOn 95 = .ok (.iload_n 2, 1) := by decide +kernel
theorem dX11_countsOn_96 : decode cX11_countsOn 96 = .ok (.laload, 1) := by decide +kernel
theorem dX11_countsOn_97 : decode cX11_countsOn 97 = .ok (.goto 4, 3) := by decide +kernel
theorem dX11_countsOn_100 : decode cX11_countsOn 100 = .ok (.lconst 0, 1) := by decide +kernel
theorem dX11_countsOn_101 : decode cX11_countsOn 101 = .ok (.lastore, 1) := by decide +kernel
theorem dX11_countsOn_102 : decode cX11_countsOn 102 = .ok (.iinc 2 1, 3) := by decide +kernel
theorem dX11_countsOn_105 : decode cX11_countsOn 105 = .ok (.goto (-42), 3) := by decide +kernel
theorem dX11_countsOn_108 : decode cX11_countsOn 108 = .ok (.return_, 1) := by decide +kernel
theorem dX11_safeIn_0 : decode cX11_safeIn 0 = .ok (.aload_n 0, 1) := by decide +kernel
theorem dX11_safeIn_1 : decode cX11_safeIn 1 = .ok (.aload_n 0, 1) := by decide +kernel
theorem dX11_safeIn_2 : decode cX11_safeIn 2 = .ok (.iload_n 1, 1) := by decide +kernel
theorem dX11_safeIn_3 : decode cX11_safeIn 3 = .ok (.i2l, 1) := by decide +kernel
theorem dX11_safeIn_4 : decode cX11_safeIn 4 = .ok (.invokevirtual 286, 3) := by decide +kernel
theorem dX11_safeIn_7 : decode cX11_safeIn 7 = .ok (.ifCond .ne 7, 3) := by decide +kernel
theorem dX11_safeIn_10 : decode cX11_safeIn 10 = .ok (.iconst 1, 1) := by decide +kernel
theorem dX11_safeIn_11 : decode cX11_safeIn 11 = .ok (.goto 20, 3) := by decide +kernel
theorem dX11_safeIn_14 : decode cX11_safeIn 14 = .ok (.iload_n 2, 1) := by decide +kernel
theorem dX11_safeIn_15 : decode cX11_safeIn 15 = .ok (.i2l, 1) := by decide +kernel
theorem dX11_safeIn_16 : decode cX11_safeIn 16 = .ok (.lconst 0, 1) := by decide +kernel
theorem dX11_safeIn_17 : decode cX11_safeIn 17 = .ok (.ldc2_w 477, 3) := by decide +kernel
theorem dX11_safeIn_20 : decode cX11_safeIn 20 = .ok (.invokestatic 131, 3) := by decide +kernel
theorem dX11_safeIn_23 : decode cX11_safeIn 23 = .ok (.ifCond .eq 7, 3) := by decide +kernel
theorem dX11_safeIn_26 : decode cX11_safeIn 26 = .ok (.iconst 0, 1) := by decide +kernel
theorem dX11_safeIn_27 : decode cX11_safeIn 27 = .ok (.goto 4, 3) := by decide +kernel
theorem dX11_safeIn_30 : decode cX11_safeIn 30 = .ok (.iconst 2, 1) := by decide +kernel
theorem dX11_safeIn_31 : decode cX11_safeIn 31 = .ok (.putfield 70, 3) := by decide +kernel
theorem dX11_safeIn_34 : decode cX11_safeIn 34 = .ok (.aload_n 0, 1) := by decide +kernel
theorem dX11_safeIn_35 : decode cX11_safeIn 35 = .ok (.getfield 70, 3) := by decide +kernel
theorem dX11_safeIn_38 : decode cX11_safeIn 38 = .ok (.ifCond .le 5, 3) := by decide +kernel
theorem dX11_safeIn_41 : decode cX11_safeIn 41 = .ok (.iconst 0, 1) := by decide +kernel
theorem dX11_safeIn_42 : decode cX11_safeIn 42 = .ok (.ireturn, 1) := by decide +kernel
theorem dX11_safeIn_43 : decode cX11_safeIn 43 = .ok (.aload_n 0, 1) := by decide +kernel
theorem dX11_safeIn_44 : decode cX11_safeIn 44 = .ok (.iload_n 1, 1) := by decide +kernel
theorem dX11_safeIn_45 : decode cX11_safeIn 45 = .ok (.invokevirtual 499, 3) := by decide +kernel
theorem dX11_safeIn_48 : decode cX11_safeIn 48 = .ok (.aload_n 0, 1) := by decide +kernel
theorem dX11_safeIn_49 : decode cX11_safeIn 49 = .ok (.getfield 45, 3) := by decide +kernel
theorem dX11_safeIn_52 : decode cX11_safeIn 52 = .ok (.iload_n 2, 1) := by decide +kernel
theorem dX11_safeIn_53 : decode cX11_safeIn 53 = .ok (.iaload, 1) := by decide +kernel
theorem dX11_safeIn_54 : decode cX11_safeIn 54 = .ok (.ireturn, 1) := by decide +kernel
theorem dX11_shelter_0 : decode cX11_shelter 0 = .ok (.aload_n 0, 1) := by decide +kernel
theorem dX11_shelter_1 : decode cX11_shelter 1 = .ok (.iconst 0, 1) := by decide +kernel
theorem dX11_shelter_2 : decode cX11_shelter 2 = .ok (.putfield 70, 3) := by decide +kernel
theorem dX11_shelter_5 : decode cX11_shelter 5 = .ok (.aload_n 0, 1) := by decide +kernel
theorem dX11_shelter_6 : decode cX11_shelter 6 = .ok (.invokevirtual 493, 3) := by decide +kernel
theorem dX11_shelter_9 : decode cX11_shelter 9 = .ok (.iconst 0, 1) := by decide +kernel
theorem dX11_shelter_10 : decode cX11_shelter 10 = .ok (.istore_n 1, 1) := by decide +kernel
theorem dX11_shelter_11 : decode cX11_shelter 11 = .ok (.iconst 0, 1) := by decide +kernel
theorem dX11_shelter_12 : decode cX11_shelter 12 = .ok (.istore_n 2, 1) := by decide +kernel
theorem dX11_shelter_13 : decode cX11_shelter 13 = .ok (.iconst 0, 1) := by decide +kernel
theorem dX11_shelter_14 : decode cX11_shelter 14 = .ok (.istore_n 3, 1) := by decide +kernel
theorem dX11_shelter_15 : decode cX11_shelter 15 = .ok (.iload_n 3, 1) := by decide +kernel
theorem dX11_shelter_16 : decode cX11_shelter 16 = .ok (.aload_n 0, 1) := by decide +kernel
theorem dX11_shelter_17 : decode cX11_shelter 17 = .ok (.getfield 9, 3) := by decide +kernel
theorem dX11_shelter_20 : decode cX11_shelter 20 = .ok (.iconst 1, 1) := by decide +kernel
theorem dX11_shelter_21 : decode cX11_shelter 21 = .ok (.iaload, 1) := by decide +kernel
theorem dX11_shelter_22 : decode cX11_shelter 22 = .ok (.if_icmp .ge 53, 3) := by decide +kernel
theorem dX11_shelter_25 : decode cX11_shelter 25 = .ok (.iconst 1, 1) := by decide +kernel
theorem dX11_shelter_26 : decode cX11_shelter 26 = .ok (.istore 4, 2) := by decide +kernel
theorem dX11_shelter_28 : decode cX11_shelter 28 = .ok (.iload 4, 2) := by decide +kernel
theorem dX11_shelter_30 : decode cX11_shelter 30 = .ok (.bipush 60, 2) := by decide +kernel
theorem dX11_shelter_32 : decode cX11_shelter 32 = .ok (.if_icmp .gt 23, 3) := by decide +kernel
theorem dX11_shelter_35 : decode cX11_shelter 35 = .ok (.aload_n 0, 1) := by decide +kernel
theorem dX11_shelter_36 : decode cX11_shelter 36 = .ok (.getfield 42, 3) := by decide +kernel
theorem dX11_shelter_39 : decode cX11_shelter 39 = .ok (.iload 4, 2) := by decide +kernel
theorem dX11_shelter_41 : decode cX11_shelter 41 = .ok (.iaload, 1) := by decide +kernel
theorem dX11_shelter_42 : decode cX11_shelter 42 = .ok (.iload_n 3, 1) := by decide +kernel
theorem dX11_shelter_43 : decode cX11_shelter 43 = .ok (.invokestatic 323, 3) := by decide +kernel
theorem dX11_shelter_46 : decode cX11_shelter 46 = .ok (.ifCond .ne 9, 3) := by decide +kernel
theorem dX11_shelter_49 : decode cX11_shelter 49 = .ok (.iinc 4 1, 3) := by decide +kernel
theorem dX11_shelter_52 : decode cX11_shelter 52 = .ok (.goto (-24), 3) := by decide +kernel
theorem dX11_shelter_55 : decode cX11_shelter 55 = .ok (.iload 4, 2) := by decide +kernel
theorem dX11_shelter_57 : decode cX11_shelter 57 = .ok (.iload_n 2, 1) := by decide +kernel
theorem dX11_shelter_58 : decode cX11_shelter 58 = .ok (.if_icmp .gt 6, 3) := by decide +kernel
theorem dX11_shelter_61 : decode cX11_shelter 61 = .ok (.goto 8, 3) := by decide +kernel
theorem dX11_shelter_64 : decode cX11_shelter 64 = .ok (.iload_n 3, 1) := by decide +kernel
theorem dX11_shelter_65 : decode cX11_shelter 65 = .ok (.istore_n 1, 1) := by decide +kernel
theorem dX11_shelter_66 : decode cX11_shelter 66 = .ok (.iload 4, 2) := by decide +kernel
theorem dX11_shelter_68 : decode cX11_shelter 68 = .ok (.istore_n 2, 1) := by decide +kernel
theorem dX11_shelter_69 : decode cX11_shelter 69 = .ok (.iinc 3 1, 3) := by decide +kernel
theorem dX11_shelter_72 : decode cX11_shelter 72 = .ok (.goto (-57), 3) := by decide +kernel
theorem dX11_shelter_75 : decode cX11_shelter 75 = .ok (.iload_n 1, 1) := by decide +kernel
theorem dX11_shelter_76 : decode cX11_shelter 76 = .ok (.ireturn, 1) := by decide +kernel
theorem dX11_later_0 : decode cX11_later 0 = .ok (.aload_n 0, 1) := by decide +kernel
theorem dX11_later_1 : decode cX11_later 1 = .ok (.aload_n 0, 1) := by decide +kernel
theorem dX11_later_2 : decode cX11_later 2 = .ok (.iload_n 1, 1) := by decide +kernel
theorem dX11_later_3 : decode cX11_later 3 = .ok (.invokevirtual 368, 3) := by decide +kernel
theorem dX11_later_6 : decode cX11_later 6 = .ok (.ifCond .ne 7, 3) := by decide +kernel
theorem dX11_later_9 : decode cX11_later 9 = .ok (.iconst 1, 1) := by decide +kernel
theorem dX11_later_10 : decode cX11_later 10 = .ok (.goto 20, 3) := by decide +kernel
theorem dX11_later_13 : decode cX11_later 13 = .ok (.iload_n 2, 1) := by decide +kernel
theorem dX11_later_14 : decode cX11_later 14 = .ok (.i2l, 1) := by decide +kernel
theorem dX11_later_15 : decode cX11_later 15 = .ok (.lconst 0, 1) := by decide +kernel
theorem dX11_later_16 : decode cX11_later 16 = .ok (.ldc2_w 512, 3) := by decide +kernel
theorem dX11_later_19 : decode cX11_later 19 = .ok (.invokestatic 131, 3) := by decide +kernel
theorem dX11_later_22 : decode cX11_later 22 = .ok (.ifCond .eq 7, 3) := by decide +kernel
theorem dX11_later_25 : decode cX11_later 25 = .ok (.iconst 0, 1) := by decide +kernel
theorem dX11_later_26 : decode cX11_later 26 = .ok (.goto 4, 3) := by decide +kernel
theorem dX11_later_29 : decode cX11_later 29 = .ok (.iconst 2, 1) := by decide +kernel
theorem dX11_later_30 : decode cX11_later 30 = .ok (.putfield 70, 3) := by decide +kernel
theorem dX11_later_33 : decode cX11_later 33 = .ok (.aload_n 0, 1) := by decide +kernel
theorem dX11_later_34 : decode cX11_later 34 = .ok (.getfield 70, 3) := by decide +kernel
theorem dX11_later_37 : decode cX11_later 37 = .ok (.ifCond .le 5, 3) := by decide +kernel
theorem dX11_later_40 : decode cX11_later 40 = .ok (.iconst 0, 1) := by decide +kernel
theorem dX11_later_41 : decode cX11_later 41 = .ok (.ireturn, 1) := by decide +kernel
theorem dX11_later_42 : decode cX11_later 42 = .ok (.aload_n 0, 1) := by decide +kernel
theorem dX11_later_43 : decode cX11_later 43 = .ok (.invokevirtual 425, 3) := by decide +kernel
theorem dX11_later_46 : decode cX11_later 46 = .ok (.iconst 0, 1) := by decide +kernel
theorem dX11_later_47 : decode cX11_later 47 = .ok (.istore_n 3, 1) := by decide +kernel
theorem dX11_later_48 : decode cX11_later 48 = .ok (.aload_n 0, 1) := by decide +kernel
theorem dX11_later_49 : decode cX11_later 49 = .ok (.ldc_w 464, 3) := by decide +kernel
theorem dX11_later_52 : decode cX11_later 52 = .ok (.invokevirtual 461, 3) := by decide +kernel
theorem dX11_later_55 : decode cX11_later 55 = .ok (.ifCond .eq 80, 3) := by decide +kernel
theorem dX11_later_58 : decode cX11_later 58 = .ok (.iconst 0, 1) := by decide +kernel
theorem dX11_later_59 : decode cX11_later 59 = .ok (.istore 4, 2) := by decide +kernel
theorem dX11_later_61 : decode cX11_later 61 = .ok (.iload 4, 2) := by decide +kernel
theorem dX11_later_63 : decode cX11_later 63 = .ok (.aload_n 0, 1) := by decide +kernel
theorem dX11_later_64 : decode cX11_later 64 = .ok (.invokevirtual 280, 3) := by decide +kernel
theorem dX11_later_67 : decode cX11_later 67 = .ok (.if_icmp .ge 65, 3) := by decide +kernel
theorem dX11_later_70 : decode cX11_later 70 = .ok (.iload_n 3, 1) := by decide +kernel
theorem dX11_later_71 : decode cX11_later 71 = .ok (.aload_n 0, 1) := by decide +kernel
theorem dX11_later_72 : decode cX11_later 72 = .ok (.getfield 339, 3) := by decide +kernel
theorem dX11_later_75 : decode cX11_later 75 = .ok (.iload 4, 2) := by decide +kernel
theorem dX11_later_77 : decode cX11_later 77 = .ok (.invokestatic 323, 3) := by decide +kernel
theorem dX11_later_80 : decode cX11_later 80 = .ok (.ifCond .eq 43, 3) := by decide +kernel
theorem dX11_later_83 : decode cX11_later 83 = .ok (.aload_n 0, 1) := by decide +kernel
theorem dX11_later_84 : decode cX11_later 84 = .ok (.getfield 9, 3) := by decide +kernel
theorem dX11_later_87 : decode cX11_later 87 = .ok (.bipush 16, 2) := by decide +kernel
theorem dX11_later_89 : decode cX11_later 89 = .ok (.iload 4, 2) := by decide +kernel
theorem dX11_later_91 : decode cX11_later 91 = .ok (.iadd, 1) := by decide +kernel
theorem dX11_later_92 : decode cX11_later 92 = .ok (.iaload, 1) := by decide +kernel
theorem dX11_later_93 : decode cX11_later 93 = .ok (.aload_n 0, 1) := by decide +kernel
theorem dX11_later_94 : decode cX11_later 94 = .ok (.iload_n 1, 1) := by decide +kernel
theorem dX11_later_95 : decode cX11_later 95 = .ok (.aload_n 0, 1) := by decide +kernel
theorem dX11_later_96 : decode cX11_later 96 = .ok (.getfield 9, 3) := by decide +kernel
theorem dX11_later_99 : decode cX11_later 99 = .ok (.bipush 40, 2) := by decide +kernel
theorem dX11_later_101 : decode cX11_later 101 = .ok (.iaload, 1) := by decide +kernel
theorem dX11_later_102 : decode cX11_later 102 = .ok (.iload_n 2, 1) := by decide +kernel
theorem dX11_later_103 : decode cX11_later 103 = .ok (.iadd, 1) := by decide +kernel
theorem dX11_later_104 : decode cX11_later 104 = .ok (.invokevirtual 345, 3) := by decide +kernel
theorem dX11_later_107 : decode cX11_later 107 = .ok (.if_icmp .ne 16, 3) := by decide +kernel
theorem dX11_later_110 : decode cX11_later 110 = .ok (.aload_n 0, 1) := by decide +kernel
theorem dX11_later_111 : decode cX11_later 111 = .ok (.getfield 9, 3) := by decide +kernel
theorem dX11_later_114 : decode cX11_later 114 = .ok (.bipush 45, 2) := by decide +kernel
theorem dX11_later_116 : decode cX11_later 116 = .ok (.iload 4, 2) := by decide +kernel
theorem dX11_later_118 : decode cX11_later 118 = .ok (.iadd, 1) := by decide +kernel
theorem dX11_later_119 : decode cX11_later 119 = .ok (.iaload, 1) := by decide +kernel
theorem dX11_later_120 : decode cX11_later 120 = .ok (.goto 4, 3) := by decide +kernel
theorem dX11_later_123 : decode cX11_later 123 = .ok (.iconst 0, 1) := by decide +kernel
theorem dX11_later_124 : decode cX11_later 124 = .ok (.iadd, 1) := by decide +kernel
theorem dX11_later_125 : decode cX11_later 125 = .ok (.istore_n 3, 1) := by decide +kernel
theorem dX11_later_126 : decode cX11_later 126 = .ok (.iinc 4 1, 3) := by decide +kernel
theorem dX11_later_129 : decode cX11_later 129 = .ok (.goto (-68), 3) := by decide +kernel
theorem dX11_later_132 : decode cX11_later 132 = .ok (.goto (-84), 3) := by decide +kernel
theorem dX11_later_135 : decode cX11_later 135 = .ok (.aload_n 0, 1) := by decide +kernel
theorem dX11_later_136 : decode cX11_later 136 = .ok (.invokevirtual 440, 3) := by decide +kernel
theorem dX11_later_139 : decode cX11_later 139 = .ok (.iload_n 3, 1) := by decide +kernel
theorem dX11_later_140 : decode cX11_later 140 = .ok (.ireturn, 1) := by decide +kernel
theorem dX11_isJust_0 : decode cX11_isJust 0 = .ok (.aload_n 0, 1) := by decide +kernel
theorem dX11_isJust_1 : decode cX11_isJust 1 = .ok (.iload 5, 2) := by decide +kernel
theorem dX11_isJust_3 : decode cX11_isJust 3 = .ok (.iload_n 3, 1) := by decide +kernel
theorem dX11_isJust_4 : decode cX11_isJust 4 = .ok (.iload_n 1, 1) := by decide +kernel
theorem dX11_isJust_5 : decode cX11_isJust 5 = .ok (.iload_n 2, 1) := by decide +kernel
theorem dX11_isJust_6 : decode cX11_isJust 6 = .ok (.aload_n 0, 1) := by decide +kernel
theorem dX11_isJust_7 : decode cX11_isJust 7 = .ok (.getfield 9, 3) := by decide +kernel
theorem dX11_isJust_10 : decode cX11_isJust 10 = .ok (.bipush 40, 2) := by decide +kernel
theorem dX11_isJust_12 : decode cX11_isJust 12 = .ok (.iaload, 1) := by decide +kernel
theorem dX11_isJust_13 : decode cX11_isJust 13 = .ok (.iload 4, 2) := by decide +kernel
theorem dX11_isJust_15 : decode cX11_isJust 15 = .ok (.isub, 1) := by decide +kernel
theorem dX11_isJust_16 : decode cX11_isJust 16 = .ok (.invokevirtual 359, 3) := by decide +kernel
theorem dX11_isJust_19 : decode cX11_isJust 19 = .ok (.iload 4, 2) := by decide +kernel
theorem dX11_isJust_21 : decode cX11_isJust 21 = .ok (.if_icmp .ne 7, 3) := by decide +kernel
theorem dX11_isJust_24 : decode cX11_isJust 24 = .ok (.iconst 1, 1) := by decide +kernel
theorem dX11_isJust_25 : decode cX11_isJust 25 = .ok (.goto 4, 3) := by decide +kernel
theorem dX11_isJust_28 : decode cX11_isJust 28 = .ok (.iconst 0, 1) := by decide +kernel
theorem dX11_isJust_29 : decode cX11_isJust 29 = .ok (.ireturn, 1) := by decide +kernel
theorem dX11_isGoneOut_0 : decode cX11_isGoneOut 0 = .ok (.aload_n 0, 1) := by decide +kernel
theorem dX11_isGoneOut_1 : decode cX11_isGoneOut 1 = .ok (.aload_n 0, 1) := by decide +kernel
theorem dX11_isGoneOut_2 : decode cX11_isGoneOut 2 = .ok (.iload_n 1, 1) := by decide +kernel
theorem dX11_isGoneOut_3 : decode cX11_isGoneOut 3 = .ok (.i2l, 1) := by decide +kernel
theorem dX11_isGoneOut_4 : decode cX11_isGoneOut 4 = .ok (.iload_n 2, 1) := by decide +kernel
theorem dX11_isGoneOut_5 : decode cX11_isGoneOut 5 = .ok (.i2l, 1) := by decide +kernel
theorem dX11_isGoneOut_6 : decode cX11_isGoneOut 6 = .ok (.invokevirtual 373, 3) := by decide +kernel
theorem dX11_isGoneOut_9 : decode cX11_isGoneOut 9 = .ok (.ifCond .ne 7, 3) := by decide +kernel
theorem dX11_isGoneOut_12 : decode cX11_isGoneOut 12 = .ok (.iconst 1, 1) := by decide +kernel
theorem dX11_isGoneOut_13 : decode cX11_isGoneOut 13 = .ok (.goto 20, 3) := by decide +kernel
theorem dX11_isGoneOut_16 : decode cX11_isGoneOut 16 = .ok (.iload_n 3, 1) := by decide +kernel
theorem dX11_isGoneOut_17 : decode cX11_isGoneOut 17 = .ok (.i2l, 1) := by decide +kernel
theorem dX11_isGoneOut_18 : decode cX11_isGoneOut 18 = .ok (.lconst 1, 1) := by decide +kernel
theorem dX11_isGoneOut_19 : decode cX11_isGoneOut 19 = .ok (.ldc2_w 399, 3) := by decide +kernel
theorem dX11_isGoneOut_22 : decode cX11_isGoneOut 22 = .ok (.invokestatic 131, 3) := by decide +kernel
theorem dX11_isGoneOut_25 : decode cX11_isGoneOut 25 = .ok (.ifCond .eq 7, 3) := by decide +kernel
theorem dX11_isGoneOut_28 : decode cX11_isGoneOut 28 = .ok (.iconst 0, 1) := by decide +kernel
theorem dX11_isGoneOut_29 : decode cX11_isGoneOut 29 = .ok (.goto 4, 3) := by decide +kernel
theorem dX11_isGoneOut_32 : decode cX11_isGoneOut 32 = .ok (.iconst 2, 1) := by decide +kernel
theorem dX11_isGoneOut_33 : decode cX11_isGoneOut 33 = .ok (.putfield 70, 3) := by decide +kernel
theorem dX11_isGoneOut_36 : decode cX11_isGoneOut 36 = .ok (.aload_n 0, 1) := by decide +kernel
theorem dX11_isGoneOut_37 : decode cX11_isGoneOut 37 = .ok (.getfield 70, 3) := by decide +kernel
theorem dX11_isGoneOut_40 : decode cX11_isGoneOut 40 = .ok (.ifCond .le 7, 3) := by decide +kernel
theorem dX11_isGoneOut_43 : decode cX11_isGoneOut 43 = .ok (.iconst 1, 1) := by decide +kernel
theorem dX11_isGoneOut_44 : decode cX11_isGoneOut 44 = .ok (.goto 4, 3) := by decide +kernel
theorem dX11_isGoneOut_47 : decode cX11_isGoneOut 47 = .ok (.iconst 0, 1) := by decide +kernel
theorem dX11_isGoneOut_48 : decode cX11_isGoneOut 48 = .ok (.ireturn, 1) := by decide +kernel
theorem dX11_laysLet_0 : decode cX11_laysLet 0 = .ok (.iconst 0, 1) := by decide +kernel
theorem dX11_laysLet_1 : decode cX11_laysLet 1 = .ok (.istore 5, 2) := by decide +kernel
theorem dX11_laysLet_3 : decode cX11_laysLet 3 = .ok (.aload_n 0, 1) := by decide +kernel
theorem dX11_laysLet_4 : decode cX11_laysLet 4 = .ok (.iconst (-1), 1) := by decide +kernel
theorem dX11_laysLet_5 : decode cX11_laysLet 5 = .ok (.putfield 514, 3) := by decide +kernel
theorem dX11_laysLet_8 : decode cX11_laysLet 8 = .ok (.iconst 0, 1) := by decide +kernel
theorem dX11_laysLet_9 : decode cX11_laysLet 9 = .ok (.istore 6, 2) := by decide +kernel
theorem dX11_laysLet_11 : decode cX11_laysLet 11 = .ok (.iload 6, 2) := by decide +kernel
theorem dX11_laysLet_13 : decode cX11_laysLet 13 = .ok (.bipush 60, 2) := by decide +kernel
theorem dX11_laysLet_15 : decode cX11_laysLet 15 = .ok (.aload_n 0, 1) := by decide +kernel
theorem dX11_laysLet_16 : decode cX11_laysLet 16 = .ok (.getfield 9, 3) := by decide +kernel
theorem dX11_laysLet_19 : decode cX11_laysLet 19 = .ok (.bipush 40, 2) := by decide +kernel
theorem dX11_laysLet_21 : decode cX11_laysLet 21 = .ok (.iaload, 1) := by decide +kernel
theorem dX11_laysLet_22 : decode cX11_laysLet 22 = .ok (.invokestatic 316, 3) := by decide +kernel
theorem dX11_laysLet_25 : decode cX11_laysLet 25 = .ok (.if_icmp .gt 64, 3) := by decide +kernel
theorem dX11_laysLet_28 : decode cX11_laysLet 28 = .ok (.iconst 0, 1) := by decide +kernel
theorem dX11_laysLet_29 : decode cX11_laysLet 29 = .ok (.istore 7, 2) := by decide +kernel
theorem dX11_laysLet_31 : decode cX11_laysLet 31 = .ok (.iload 7, 2) := by decide +kernel
theorem dX11_laysLet_33 : decode cX11_laysLet 33 = .ok (.bipush 60, 2) := by decide +kernel
theorem dX11_laysLet_35 : decode cX11_laysLet 35 = .ok (.if_icmp .gt 48, 3) := by decide +kernel
theorem dX11_laysLet_38 : decode cX11_laysLet 38 = .ok (.aload_n 0, 1) := by decide +kernel
theorem dX11_laysLet_39 : decode cX11_laysLet 39 = .ok (.iload_n 1, 1) := by decide +kernel
theorem dX11_laysLet_40 : decode cX11_laysLet 40 = .ok (.iload_n 2, 1) := by decide +kernel
theorem dX11_laysLet_41 : decode cX11_laysLet 41 = .ok (.iload_n 3, 1) := by decide +kernel
theorem dX11_laysLet_42 : decode cX11_laysLet 42 = .ok (.iload 6, 2) := by decide +kernel
theorem dX11_laysLet_44 : decode cX11_laysLet 44 = .ok (.iload 7, 2) := by decide +kernel
theorem dX11_laysLet_46 : decode cX11_laysLet 46 = .ok (.invokevirtual 517, 3) := by decide +kernel
theorem dX11_laysLet_49 : decode cX11_laysLet 49 = .ok (.ifCond .ne 6, 3) := by decide +kernel
theorem dX11_laysLet_52 : decode cX11_laysLet 52 = .ok (.goto 25, 3) := by decide +kernel
theorem dX11_laysLet_55 : decode cX11_laysLet 55 = .ok (.iload 5, 2) := by decide +kernel
theorem dX11_laysLet_57 : decode cX11_laysLet 57 = .ok (.iload 4, 2) := by decide +kernel
theorem dX11_laysLet_59 : decode cX11_laysLet 59 = .ok (.if_icmp .ne 15, 3) := by decide +kernel
theorem dX11_laysLet_62 : decode cX11_laysLet 62 = .ok (.aload_n 0, 1) := by decide +kernel
theorem dX11_laysLet_63 : decode cX11_laysLet 63 = .ok (.bipush 100, 2) := by decide +kernel
theorem dX11_laysLet_65 : decode cX11_laysLet 65 = .ok (.iload 6, 2) := by decide +kernel
theorem dX11_laysLet_67 : decode cX11_laysLet 67 = .ok (.imul, 1) := by decide +kernel
theorem dX11_laysLet_68 : decode cX11_laysLet 68 = .ok (.iload 7, 2) := by decide +kernel
theorem dX11_laysLet_70 : decode cX11_laysLet 70 = .ok (.iadd, 1) := by decide +kernel
theorem dX11_laysLet_71 : decode cX11_laysLet 71 = .ok (.putfield 514, 3) := by decide +kernel
theorem dX11_laysLet_74 : decode cX11_laysLet 74 = .ok (.iinc 5 1, 3) := by decide +kernel
theorem dX11_laysLet_77 : decode cX11_laysLet 77 = .ok (.iinc 7 1, 3) := by decide +kernel
theorem dX11_laysLet_80 : decode cX11_laysLet 80 = .ok (.goto (-49), 3) := by decide +kernel
theorem dX11_laysLet_83 : decode cX11_laysLet 83 = .ok (.iinc 6 1, 3) := by decide +kernel
theorem dX11_laysLet_86 : decode cX11_laysLet 86 = .ok (.goto (-75), 3) := by decide +kernel
theorem dX11_laysLet_89 : decode cX11_laysLet 89 = .ok (.iload 5, 2) := by decide +kernel
theorem dX11_laysLet_91 : decode cX11_laysLet 91 = .ok (.ireturn, 1) := by decide +kernel
theorem dX11_letGoBy_0 : decode cX11_letGoBy 0 = .ok (.aload_n 0, 1) := by decide +kernel
theorem dX11_letGoBy_1 : decode cX11_letGoBy 1 = .ok (.iload_n 1, 1) := by decide +kernel
theorem dX11_letGoBy_2 : decode cX11_letGoBy 2 = .ok (.iload_n 2, 1) := by decide +kernel
theorem dX11_letGoBy_3 : decode cX11_letGoBy 3 = .ok (.iload_n 3, 1) := by decide +kernel
theorem dX11_letGoBy_4 : decode cX11_letGoBy 4 = .ok (.invokevirtual 521, 3) := by decide +kernel
theorem dX11_letGoBy_7 : decode cX11_letGoBy 7 = .ok (.ifCond .eq 7, 3) := by decide +kernel
theorem dX11_letGoBy_10 : decode cX11_letGoBy 10 = .ok (.iconst 0, 1) := by decide +kernel
