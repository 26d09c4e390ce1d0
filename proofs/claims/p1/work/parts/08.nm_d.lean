theorem dX11_does_23 : decode cX11_does 23 = .ok (.idiv, 1) := by decide +kernel
theorem dX11_does_24 : decode cX11_does 24 = .ok (.iload_n 1, 1) := by decide +kernel
theorem dX11_does_25 : decode cX11_does 25 = .ok (.bipush 10, 2) := by decide +kernel
theorem dX11_does_27 : decode cX11_does 27 = .ok (.idiv, 1) := by decide +kernel
theorem dX11_does_28 : decode cX11_does 28 = .ok (.bipush 10, 2) := by decide +kernel
theorem dX11_does_30 : decode cX11_does 30 = .ok (.irem, 1) := by decide +kernel
theorem dX11_does_31 : decode cX11_does 31 = .ok (.iload_n 1, 1) := by decide +kernel
theorem dX11_does_32 : decode cX11_does 32 = .ok (.bipush 10, 2) := by decide +kernel
theorem dX11_does_34 : decode cX11_does 34 = .ok (.irem, 1) := by decide +kernel
theorem dX11_does_35 : decode cX11_does 35 = .ok (.invokevirtual 386, 3) := by decide +kernel
theorem dX11_does_38 : decode cX11_does 38 = .ok (.pop, 1) := by decide +kernel
theorem dX11_does_39 : decode cX11_does 39 = .ok (.goto 27, 3) := by decide +kernel
theorem dX11_does_42 : decode cX11_does 42 = .ok (.iload_n 1, 1) := by decide +kernel
theorem dX11_does_43 : decode cX11_does 43 = .ok (.sipush 2000, 3) := by decide +kernel
theorem dX11_does_46 : decode cX11_does 46 = .ok (.if_icmp .ge 15, 3) := by decide +kernel
theorem dX11_does_49 : decode cX11_does 49 = .ok (.aload_n 0, 1) := by decide +kernel
theorem dX11_does_50 : decode cX11_does 50 = .ok (.iload_n 1, 1) := by decide +kernel
theorem dX11_does_51 : decode cX11_does 51 = .ok (.sipush 1000, 3) := by decide +kernel
theorem dX11_does_54 : decode cX11_does 54 = .ok (.isub, 1) := by decide +kernel
theorem dX11_does_55 : decode cX11_does 55 = .ok (.invokevirtual 393, 3) := by decide +kernel
theorem dX11_does_58 : decode cX11_does 58 = .ok (.goto 8, 3) := by decide +kernel
theorem dX11_does_61 : decode cX11_does 61 = .ok (.aload_n 0, 1) := by decide +kernel
theorem dX11_does_62 : decode cX11_does 62 = .ok (.invokevirtual 396, 3) := by decide +kernel
theorem dX11_does_65 : decode cX11_does 65 = .ok (.pop, 1) := by decide +kernel
theorem dX11_does_66 : decode cX11_does 66 = .ok (.return_, 1) := by decide +kernel
theorem dX11_lyingAll_0 : decode cX11_lyingAll 0 = .ok (.iconst 0, 1) := by decide +kernel
theorem dX11_lyingAll_1 : decode cX11_lyingAll 1 = .ok (.istore_n 1, 1) := by decide +kernel
theorem dX11_lyingAll_2 : decode cX11_lyingAll 2 = .ok (.iconst 0, 1) := by decide +kernel
theorem dX11_lyingAll_3 : decode cX11_lyingAll 3 = .ok (.istore_n 2, 1) := by decide +kernel
theorem dX11_lyingAll_4 : decode cX11_lyingAll 4 = .ok (.iload_n 2, 1) := by decide +kernel
theorem dX11_lyingAll_5 : decode cX11_lyingAll 5 = .ok (.aload_n 0, 1) := by decide +kernel
theorem dX11_lyingAll_6 : decode cX11_lyingAll 6 = .ok (.invokevirtual 280, 3) := by decide +kernel
theorem dX11_lyingAll_9 : decode cX11_lyingAll 9 = .ok (.if_icmp .ge 26, 3) := by decide +kernel
theorem dX11_lyingAll_35 : decode cX11_lyingAll 35 = .ok (.iload_n 1, 1) := by decide +kernel
theorem dX11_lyingAll_36 : decode cX11_lyingAll 36 = .ok (.ireturn, 1) := by decide +kernel
theorem dX11_hurtAll_0 : decode cX11_hurtAll 0 = .ok (.iconst 0, 1) := by decide +kernel
theorem dX11_hurtAll_1 : decode cX11_hurtAll 1 = .ok (.istore_n 1, 1) := by decide +kernel
theorem dX11_hurtAll_2 : decode cX11_hurtAll 2 = .ok (.iconst 0, 1) := by decide +kernel
theorem dX11_hurtAll_3 : decode cX11_hurtAll 3 = .ok (.istore_n 2, 1) := by decide +kernel
theorem dX11_hurtAll_4 : decode cX11_hurtAll 4 = .ok (.iload_n 2, 1) := by decide +kernel
theorem dX11_hurtAll_5 : decode cX11_hurtAll 5 = .ok (.aload_n 0, 1) := by decide +kernel
theorem dX11_hurtAll_6 : decode cX11_hurtAll 6 = .ok (.getfield 9, 3) := by decide +kernel
theorem dX11_hurtAll_9 : decode cX11_hurtAll 9 = .ok (.iconst 4, 1) := by decide +kernel
theorem dX11_hurtAll_10 : decode cX11_hurtAll 10 = .ok (.iaload, 1) := by decide +kernel
theorem dX11_hurtAll_11 : decode cX11_hurtAll 11 = .ok (.if_icmp .ge 21, 3) := by decide +kernel
theorem dX11_hurtAll_32 : decode cX11_hurtAll 32 = .ok (.iload_n 1, 1) := by decide +kernel
theorem dX11_hurtAll_33 : decode cX11_hurtAll 33 = .ok (.ireturn, 1) := by decide +kernel
theorem dX11_judge_0 : decode cX11_judge 0 = .ok (.aload_n 0, 1) := by decide +kernel
theorem dX11_judge_1 : decode cX11_judge 1 = .ok (.aload_n 0, 1) := by decide +kernel
theorem dX11_judge_2 : decode cX11_judge 2 = .ok (.iload_n 1, 1) := by decide +kernel
theorem dX11_judge_3 : decode cX11_judge 3 = .ok (.invokevirtual 420, 3) := by decide +kernel
theorem dX11_judge_6 : decode cX11_judge 6 = .ok (.putfield 70, 3) := by decide +kernel
theorem dX11_judge_9 : decode cX11_judge 9 = .ok (.aload_n 0, 1) := by decide +kernel
theorem dX11_judge_10 : decode cX11_judge 10 = .ok (.getfield 70, 3) := by decide +kernel
theorem dX11_judge_13 : decode cX11_judge 13 = .ok (.ifCond .ne 20, 3) := by decide +kernel
theorem dX11_judge_33 : decode cX11_judge 33 = .ok (.aload_n 0, 1) := by decide +kernel
theorem dX11_judge_34 : decode cX11_judge 34 = .ok (.getfield 70, 3) := by decide +kernel
theorem dX11_judge_37 : decode cX11_judge 37 = .ok (.ifCond .le 5, 3) := by decide +kernel
theorem dX11_judge_40 : decode cX11_judge 40 = .ok (.iconst 0, 1) := by decide +kernel
theorem dX11_judge_41 : decode cX11_judge 41 = .ok (.ireturn, 1) := by decide +kernel
theorem dX11_perform_0 : decode cX11_perform 0 = .ok (.aload_n 0, 1) := by decide +kernel
theorem dX11_perform_1 : decode cX11_perform 1 = .ok (.aload_n 0, 1) := by decide +kernel
theorem dX11_perform_2 : decode cX11_perform 2 = .ok (.iload_n 1, 1) := by decide +kernel
theorem dX11_perform_3 : decode cX11_perform 3 = .ok (.invokevirtual 420, 3) := by decide +kernel
theorem dX11_perform_6 : decode cX11_perform 6 = .ok (.putfield 70, 3) := by decide +kernel
theorem dX11_perform_9 : decode cX11_perform 9 = .ok (.aload_n 0, 1) := by decide +kernel
theorem dX11_perform_10 : decode cX11_perform 10 = .ok (.getfield 70, 3) := by decide +kernel
theorem dX11_perform_13 : decode cX11_perform 13 = .ok (.ifCond .le 5, 3) := by decide +kernel
theorem dX11_perform_16 : decode cX11_perform 16 = .ok (.iconst 0, 1) := by decide +kernel
theorem dX11_perform_17 : decode cX11_perform 17 = .ok (.ireturn, 1) := by decide +kernel
theorem dX11_draw_0 : decode cX11_draw 0 = .ok (.aload_n 0, 1) := by decide +kernel
theorem dX11_draw_1 : decode cX11_draw 1 = .ok (.ldc_w 443, 3) := by decide +kernel
theorem dX11_draw_4 : decode cX11_draw 4 = .ok (.aload_n 0, 1) := by decide +kernel
theorem dX11_draw_5 : decode cX11_draw 5 = .ok (.getfield 444, 3) := by decide +kernel
theorem dX11_draw_8 : decode cX11_draw 8 = .ok (.imul, 1) := by decide +kernel
theorem dX11_draw_9 : decode cX11_draw 9 = .ok (.sipush 12345, 3) := by decide +kernel
theorem dX11_draw_12 : decode cX11_draw 12 = .ok (.iadd, 1) := by decide +kernel
theorem dX11_draw_13 : decode cX11_draw 13 = .ok (.putfield 444, 3) := by decide +kernel
theorem dX11_draw_16 : decode cX11_draw 16 = .ok (.aload_n 0, 1) := by decide +kernel
theorem dX11_draw_17 : decode cX11_draw 17 = .ok (.getfield 444, 3) := by decide +kernel
theorem dX11_draw_20 : decode cX11_draw 20 = .ok (.bipush 16, 2) := by decide +kernel
theorem dX11_draw_22 : decode cX11_draw 22 = .ok (.iushr, 1) := by decide +kernel
theorem dX11_draw_23 : decode cX11_draw 23 = .ok (.iload_n 1, 1) := by decide +kernel
theorem dX11_draw_24 : decode cX11_draw 24 = .ok (.irem, 1) := by decide +kernel
theorem dX11_draw_25 : decode cX11_draw 25 = .ok (.ireturn, 1) := by decide +kernel
theorem dX11_season_0 : decode cX11_season 0 = .ok (.aload_n 0, 1) := by decide +kernel
theorem dX11_season_1 : decode cX11_season 1 = .ok (.iconst 0, 1) := by decide +kernel
theorem dX11_season_2 : decode cX11_season 2 = .ok (.putfield 70, 3) := by decide +kernel
theorem dX11_season_5 : decode cX11_season 5 = .ok (.iload_n 2, 1) := by decide +kernel
theorem dX11_season_6 : decode cX11_season 6 = .ok (.i2l, 1) := by decide +kernel
theorem dX11_season_7 : decode cX11_season 7 = .ok (.lconst 1, 1) := by decide +kernel
theorem dX11_season_8 : decode cX11_season 8 = .ok (.ldc2_w 447, 3) := by decide +kernel
theorem dX11_season_11 : decode cX11_season 11 = .ok (.invokestatic 131, 3) := by decide +kernel
theorem dX11_season_14 : decode cX11_season 14 = .ok (.ifCond .ne 9, 3) := by decide +kernel
theorem dX11_season_17 : decode cX11_season 17 = .ok (.aload_n 0, 1) := by decide +kernel
theorem dX11_season_18 : decode cX11_season 18 = .ok (.iconst 1, 1) := by decide +kernel
theorem dX11_season_19 : decode cX11_season 19 = .ok (.invokevirtual 269, 3) := by decide +kernel
theorem dX11_season_22 : decode cX11_season 22 = .ok (.ireturn, 1) := by decide +kernel
theorem dX11_season_23 : decode cX11_season 23 = .ok (.aload_n 0, 1) := by decide +kernel
theorem dX11_season_24 : decode cX11_season 24 = .ok (.iload_n 1, 1) := by decide +kernel
theorem dX11_season_25 : decode cX11_season 25 = .ok (.putfield 444, 3) := by decide +kernel
theorem dX11_season_28 : decode cX11_season 28 = .ok (.iconst 0, 1) := by decide +kernel
theorem dX11_season_29 : decode cX11_season 29 = .ok (.istore_n 3, 1) := by decide +kernel
theorem dX11_season_30 : decode cX11_season 30 = .ok (.iconst 0, 1) := by decide +kernel
theorem dX11_season_31 : decode cX11_season 31 = .ok (.istore 4, 2) := by decide +kernel
theorem dX11_season_33 : decode cX11_season 33 = .ok (.iload 4, 2) := by decide +kernel
theorem dX11_season_35 : decode cX11_season 35 = .ok (.iload_n 2, 1) := by decide +kernel
theorem dX11_season_36 : decode cX11_season 36 = .ok (.if_icmp .ge 143, 3) := by decide +kernel
theorem dX11_season_39 : decode cX11_season 39 = .ok (.aload_n 0, 1) := by decide +kernel
theorem dX11_season_40 : decode cX11_season 40 = .ok (.iconst 4, 1) := by decide +kernel
theorem dX11_season_41 : decode cX11_season 41 = .ok (.invokevirtual 449, 3) := by decide +kernel
theorem dX11_season_44 : decode cX11_season 44 = .ok (.istore 5, 2) := by decide +kernel
theorem dX11_season_46 : decode cX11_season 46 = .ok (.iload 5, 2) := by decide +kernel
theorem dX11_season_48 : decode cX11_season 48 = .ok (.iconst 1, 1) := by decide +kernel
theorem dX11_season_49 : decode cX11_season 49 = .ok (.if_icmp .le 13, 3) := by decide +kernel
theorem dX11_season_52 : decode cX11_season 52 = .ok (.aload_n 0, 1) := by decide +kernel
theorem dX11_season_53 : decode cX11_season 53 = .ok (.invokevirtual 280, 3) := by decide +kernel
theorem dX11_season_56 : decode cX11_season 56 = .ok (.ifCond .ne 6, 3) := by decide +kernel
theorem dX11_season_59 : decode cX11_season 59 = .ok (.goto 114, 3) := by decide +kernel
theorem dX11_season_62 : decode cX11_season 62 = .ok (.iconst (-1), 1) := by decide +kernel
theorem dX11_season_63 : decode cX11_season 63 = .ok (.istore 6, 2) := by decide +kernel
theorem dX11_season_65 : decode cX11_season 65 = .ok (.iload 5, 2) := by decide +kernel
theorem dX11_season_67 : decode cX11_season 67 = .ok (.iconst 1, 1) := by decide +kernel
theorem dX11_season_68 : decode cX11_season 68 = .ok (.if_icmp .le 40, 3) := by decide +kernel
theorem dX11_season_71 : decode cX11_season 71 = .ok (.aload_n 0, 1) := by decide +kernel
theorem dX11_season_72 : decode cX11_season 72 = .ok (.aload_n 0, 1) := by decide +kernel
theorem dX11_season_73 : decode cX11_season 73 = .ok (.invokevirtual 280, 3) := by decide +kernel
theorem dX11_season_76 : decode cX11_season 76 = .ok (.invokevirtual 449, 3) := by decide +kernel
theorem dX11_season_79 : decode cX11_season 79 = .ok (.iload 5, 2) := by decide +kernel
theorem dX11_season_81 : decode cX11_season 81 = .ok (.iconst 2, 1) := by decide +kernel
theorem dX11_season_82 : decode cX11_season 82 = .ok (.if_icmp .ne 8, 3) := by decide +kernel
theorem dX11_season_85 : decode cX11_season 85 = .ok (.bipush 100, 2) := by decide +kernel
theorem dX11_season_87 : decode cX11_season 87 = .ok (.goto 4, 3) := by decide +kernel
theorem dX11_season_90 : decode cX11_season 90 = .ok (.iconst 1, 1) := by decide +kernel
theorem dX11_season_91 : decode cX11_season 91 = .ok (.imul, 1) := by decide +kernel
theorem dX11_season_92 : decode cX11_season 92 = .ok (.iload 5, 2) := by decide +kernel
theorem dX11_season_94 : decode cX11_season 94 = .ok (.iconst 2, 1) := by decide +kernel
theorem dX11_season_95 : decode cX11_season 95 = .ok (.if_icmp .ne 7, 3) := by decide +kernel
theorem dX11_season_98 : decode cX11_season 98 = .ok (.iconst 0, 1) := by decide +kernel
theorem dX11_season_99 : decode cX11_season 99 = .ok (.goto 6, 3) := by decide +kernel
theorem dX11_season_102 : decode cX11_season 102 = .ok (.sipush 1000, 3) := by decide +kernel
theorem dX11_season_105 : decode cX11_season 105 = .ok (.iadd, 1) := by decide +kernel
theorem dX11_season_106 : decode cX11_season 106 = .ok (.istore 6, 2) := by decide +kernel
theorem dX11_season_108 : decode cX11_season 108 = .ok (.iload 5, 2) := by decide +kernel
theorem dX11_season_110 : decode cX11_season 110 = .ok (.iconst 2, 1) := by decide +kernel
theorem dX11_season_111 : decode cX11_season 111 = .ok (.if_icmp .ne 36, 3) := by decide +kernel
theorem dX11_season_114 : decode cX11_season 114 = .ok (.iload 6, 2) := by decide +kernel
theorem dX11_season_116 : decode cX11_season 116 = .ok (.bipush 10, 2) := by decide +kernel
theorem dX11_season_118 : decode cX11_season 118 = .ok (.aload_n 0, 1) := by decide +kernel
theorem dX11_season_119 : decode cX11_season 119 = .ok (.aload_n 0, 1) := by decide +kernel
theorem dX11_season_120 : decode cX11_season 120 = .ok (.getfield 9, 3) := by decide +kernel
theorem dX11_season_123 : decode cX11_season 123 = .ok (.iconst 1, 1) := by decide +kernel
theorem dX11_season_124 : decode cX11_season 124 = .ok (.iaload, 1) := by decide +kernel
theorem dX11_season_125 : decode cX11_season 125 = .ok (.invokevirtual 449, 3) := by decide +kernel
theorem dX11_season_128 : decode cX11_season 128 = .ok (.imul, 1) := by decide +kernel
theorem dX11_season_129 : decode cX11_season 129 = .ok (.iadd, 1) := by decide +kernel
theorem dX11_season_130 : decode cX11_season 130 = .ok (.istore 6, 2) := by decide +kernel
theorem dX11_season_132 : decode cX11_season 132 = .ok (.iload 6, 2) := by decide +kernel
theorem dX11_season_134 : decode cX11_season 134 = .ok (.aload_n 0, 1) := by decide +kernel
theorem dX11_season_135 : decode cX11_season 135 = .ok (.aload_n 0, 1) := by decide +kernel
theorem dX11_season_136 : decode cX11_season 136 = .ok (.getfield 9, 3) := by decide +kernel
theorem dX11_season_139 : decode cX11_season 139 = .ok (.iconst 2, 1) := by decide +kernel
theorem dX11_season_140 : decode cX11_season 140 = .ok (.iaload, 1) := by decide +kernel
theorem dX11_season_141 : decode cX11_season 141 = .ok (.invokevirtual 449, 3) := by decide +kernel
theorem dX11_season_144 : decode cX11_season 144 = .ok (.iadd, 1) := by decide +kernel
theorem dX11_season_145 : decode cX11_season 145 = .ok (.istore 6, 2) := by decide +kernel
theorem dX11_season_147 : decode cX11_season 147 = .ok (.aload_n 0, 1) := by decide +kernel
theorem dX11_season_148 : decode cX11_season 148 = .ok (.iload 6, 2) := by decide +kernel
theorem dX11_season_150 : decode cX11_season 150 = .ok (.i2l, 1) := by decide +kernel
theorem dX11_season_151 : decode cX11_season 151 = .ok (.invokevirtual 428, 3) := by decide +kernel
theorem dX11_season_154 : decode cX11_season 154 = .ok (.ifCond .eq 6, 3) := by decide +kernel
theorem dX11_season_157 : decode cX11_season 157 = .ok (.goto 16, 3) := by decide +kernel
theorem dX11_season_160 : decode cX11_season 160 = .ok (.aload_n 0, 1) := by decide +kernel
theorem dX11_season_161 : decode cX11_season 161 = .ok (.invokevirtual 383, 3) := by decide +kernel
theorem dX11_season_164 : decode cX11_season 164 = .ok (.aload_n 0, 1) := by decide +kernel
theorem dX11_season_165 : decode cX11_season 165 = .ok (.iload 6, 2) := by decide +kernel
theorem dX11_season_167 : decode cX11_season 167 = .ok (.invokevirtual 431, 3) := by decide +kernel
theorem dX11_season_170 : decode cX11_season 170 = .ok (.iinc 3 1, 3) := by decide +kernel
theorem dX11_season_173 : decode cX11_season 173 = .ok (.iinc 4 1, 3) := by decide +kernel
theorem dX11_season_176 : decode cX11_season 176 = .ok (.goto (-143), 3) := by decide +kernel
theorem dX11_season_179 : decode cX11_season 179 = .ok (.iload_n 3, 1) := by decide +kernel
theorem dX11_season_180 : decode cX11_season 180 = .ok (.ireturn, 1) := by decide +kernel
theorem dX11_falls_0 : decode cX11_falls 0 = .ok (.aload_n 0, 1) := by decide +kernel
theorem dX11_falls_1 : decode cX11_falls 1 = .ok (.iconst 0, 1) := by decide +kernel
theorem dX11_falls_2 : decode cX11_falls 2 = .ok (.putfield 70, 3) := by decide +kernel
theorem dX11_falls_5 : decode cX11_falls 5 = .ok (.aload_n 0, 1) := by decide +kernel
theorem dX11_falls_6 : decode cX11_falls 6 = .ok (.iload_n 1, 1) := by decide +kernel
theorem dX11_falls_7 : decode cX11_falls 7 = .ok (.i2l, 1) := by decide +kernel
theorem dX11_falls_8 : decode cX11_falls 8 = .ok (.invokevirtual 363, 3) := by decide +kernel
theorem dX11_falls_11 : decode cX11_falls 11 = .ok (.ifCond .ne 9, 3) := by decide +kernel
theorem dX11_falls_14 : decode cX11_falls 14 = .ok (.aload_n 0, 1) := by decide +kernel
theorem dX11_falls_15 : decode cX11_falls 15 = .ok (.iconst 1, 1) := by decide +kernel
theorem dX11_falls_16 : decode cX11_falls 16 = .ok (.invokevirtual 269, 3) := by decide +kernel
theorem dX11_falls_19 : decode cX11_falls 19 = .ok (.ireturn, 1) := by decide +kernel
theorem dX11_lands_0 : decode cX11_lands 0 = .ok (.aload_n 0, 1) := by decide +kernel
theorem dX11_lands_1 : decode cX11_lands 1 = .ok (.iconst 0, 1) := by decide +kernel
theorem dX11_lands_2 : decode cX11_lands 2 = .ok (.putfield 70, 3) := by decide +kernel
theorem dX11_lands_5 : decode cX11_lands 5 = .ok (.aload_n 0, 1) := by decide +kernel
theorem dX11_lands_6 : decode cX11_lands 6 = .ok (.iload_n 1, 1) := by decide +kernel
theorem dX11_lands_7 : decode cX11_lands 7 = .ok (.i2l, 1) := by decide +kernel
theorem dX11_lands_8 : decode cX11_lands 8 = .ok (.invokevirtual 363, 3) := by decide +kernel
theorem dX11_lands_11 : decode cX11_lands 11 = .ok (.ifCond .ne 9, 3) := by decide +kernel
theorem dX11_lands_14 : decode cX11_lands 14 = .ok (.aload_n 0, 1) := by decide +kernel
theorem dX11_lands_15 : decode cX11_lands 15 = .ok (.iconst 1, 1) := by decide +kernel
theorem dX11_lands_16 : decode cX11_lands 16 = .ok (.invokevirtual 269, 3) := by decide +kernel
theorem dX11_lands_19 : decode cX11_lands 19 = .ok (.ireturn, 1) := by decide +kernel
theorem dX11_nextFall_0 : decode cX11_nextFall 0 = .ok (.aload_n 0, 1) := by decide +kernel
theorem dX11_nextFall_1 : decode cX11_nextFall 1 = .ok (.invokevirtual 455, 3) := by decide +kernel
theorem dX11_nextFall_4 : decode cX11_nextFall 4 = .ok (.istore_n 2, 1) := by decide +kernel
theorem dX11_nextFall_5 : decode cX11_nextFall 5 = .ok (.iload_n 2, 1) := by decide +kernel
theorem dX11_nextFall_6 : decode cX11_nextFall 6 = .ok (.iload_n 1, 1) := by decide +kernel
theorem dX11_nextFall_7 : decode cX11_nextFall 7 = .ok (.if_icmp .le 5, 3) := by decide +kernel
theorem dX11_nextFall_10 : decode cX11_nextFall 10 = .ok (.iconst 0, 1) := by decide +kernel
theorem dX11_nextFall_11 : decode cX11_nextFall 11 = .ok (.ireturn, 1) := by decide +kernel
theorem dX11_nextFall_12 : decode cX11_nextFall 12 = .ok (.aload_n 0, 1) := by decide +kernel
theorem dX11_nextFall_13 : decode cX11_nextFall 13 = .ok (.iload_n 2, 1) := by decide +kernel
theorem dX11_nextFall_14 : decode cX11_nextFall 14 = .ok (.invokevirtual 355, 3) := by decide +kernel
theorem dX11_nextFall_17 : decode cX11_nextFall 17 = .ok (.iconst 1, 1) := by decide +kernel
theorem dX11_nextFall_18 : decode cX11_nextFall 18 = .ok (.ireturn, 1) := by decide +kernel
theorem dX11_fallIn_0 : decode cX11_fallIn 0 = .ok (.aload_n 0, 1) := by decide +kernel
theorem dX11_fallIn_1 : decode cX11_fallIn 1 = .ok (.iconst 0, 1) := by decide +kernel
theorem dX11_fallIn_2 : decode cX11_fallIn 2 = .ok (.putfield 70, 3) := by decide +kernel
theorem dX11_fallIn_5 : decode cX11_fallIn 5 = .ok (.iload_n 1, 1) := by decide +kernel
theorem dX11_fallIn_6 : decode cX11_fallIn 6 = .ok (.i2l, 1) := by decide +kernel
theorem dX11_fallIn_7 : decode cX11_fallIn 7 = .ok (.lconst 1, 1) := by decide +kernel
theorem dX11_fallIn_8 : decode cX11_fallIn 8 = .ok (.ldc2_w 377, 3) := by decide +kernel
theorem dX11_fallIn_11 : decode cX11_fallIn 11 = .ok (.invokestatic 131, 3) := by decide +kernel
theorem dX11_fallIn_14 : decode cX11_fallIn 14 = .ok (.ifCond .ne 9, 3) := by decide +kernel
theorem dX11_fallIn_17 : decode cX11_fallIn 17 = .ok (.aload_n 0, 1) := by decide +kernel
theorem dX11_fallIn_18 : decode cX11_fallIn 18 = .ok (.iconst 1, 1) := by decide +kernel
theorem dX11_fallIn_19 : decode cX11_fallIn 19 = .ok (.invokevirtual 269, 3) := by decide +kernel
theorem dX11_fallIn_22 : decode cX11_fallIn 22 = .ok (.ireturn, 1) := by decide +kernel
theorem dX11_fallIn_23 : decode cX11_fallIn 23 = .ok (.aload_n 0, 1) := by decide +kernel
theorem dX11_fallIn_24 : decode cX11_fallIn 24 = .ok (.invokevirtual 425, 3) := by decide +kernel
theorem dX11_fallIn_27 : decode cX11_fallIn 27 = .ok (.aload_n 0, 1) := by decide +kernel
theorem dX11_fallIn_28 : decode cX11_fallIn 28 = .ok (.getfield 9, 3) := by decide +kernel
theorem dX11_fallIn_31 : decode cX11_fallIn 31 = .ok (.bipush 40, 2) := by decide +kernel
theorem dX11_fallIn_33 : decode cX11_fallIn 33 = .ok (.iaload, 1) := by decide +kernel
theorem dX11_fallIn_34 : decode cX11_fallIn 34 = .ok (.iload_n 1, 1) := by decide +kernel
theorem dX11_fallIn_35 : decode cX11_fallIn 35 = .ok (.iadd, 1) := by decide +kernel
theorem dX11_fallIn_36 : decode cX11_fallIn 36 = .ok (.istore_n 2, 1) := by decide +kernel
theorem dX11_fallIn_37 : decode cX11_fallIn 37 = .ok (.iconst 0, 1) := by decide +kernel
theorem dX11_fallIn_38 : decode cX11_fallIn 38 = .ok (.istore_n 3, 1) := by decide +kernel
theorem dX11_fallIn_39 : decode cX11_fallIn 39 = .ok (.aload_n 0, 1) := by decide +kernel
theorem dX11_fallIn_40 : decode cX11_fallIn 40 = .ok (.iload_n 2, 1) := by decide +kernel
theorem dX11_fallIn_41 : decode cX11_fallIn 41 = .ok (.invokevirtual 461, 3) := by decide +kernel
theorem dX11_fallIn_44 : decode cX11_fallIn 44 = .ok (.ifCond .eq 26, 3) := by decide +kernel
theorem dX11_fallIn_70 : decode cX11_fallIn 70 = .ok (.aload_n 0, 1) := by decide +kernel
theorem dX11_fallIn_71 : decode cX11_fallIn 71 = .ok (.invokevirtual 440, 3) := by decide +kernel
theorem dX11_fallIn_74 : decode cX11_fallIn 74 = .ok (.iload_n 3, 1) := by decide +kernel
theorem dX11_fallIn_75 : decode cX11_fallIn 75 = .ok (.ireturn, 1) := by decide +kernel
theorem dX11_next_0 : decode cX11_next 0 = .ok (.aload_n 0, 1) := by decide +kernel
theorem dX11_next_1 : decode cX11_next 1 = .ok (.iconst 0, 1) := by decide +kernel
theorem dX11_next_2 : decode cX11_next 2 = .ok (.putfield 70, 3) := by decide +kernel
theorem dX11_next_5 : decode cX11_next 5 = .ok (.aload_n 0, 1) := by decide +kernel
theorem dX11_next_6 : decode cX11_next 6 = .ok (.invokevirtual 455, 3) := by decide +kernel
theorem dX11_next_9 : decode cX11_next 9 = .ok (.istore_n 1, 1) := by decide +kernel
theorem dX11_next_10 : decode cX11_next 10 = .ok (.iload_n 1, 1) := by decide +kernel
theorem dX11_next_11 : decode cX11_next 11 = .ok (.ldc_w 358, 3) := by decide +kernel
theorem dX11_next_14 : decode cX11_next 14 = .ok (.if_icmp .ne 7, 3) := by decide +kernel
theorem dX11_next_17 : decode cX11_next 17 = .ok (.iconst (-1), 1) := by decide +kernel
theorem dX11_next_18 : decode cX11_next 18 = .ok (.goto 12, 3) := by decide +kernel
theorem dX11_next_30 : decode cX11_next 30 = .ok (.ireturn, 1) := by decide +kernel
theorem dX11_busiest_0 : decode cX11_busiest 0 = .ok (.aload_n 0, 1) := by decide +kernel
theorem dX11_busiest_1 : decode cX11_busiest 1 = .ok (.iconst 0, 1) := by decide +kernel
theorem dX11_busiest_2 : decode cX11_busiest 2 = .ok (.putfield 70, 3) := by decide +kernel
theorem dX11_busiest_5 : decode cX11_busiest 5 = .ok (.aload_n 0, 1) := by decide +kernel
theorem dX11_busiest_6 : decode cX11_busiest 6 = .ok (.invokevirtual 425, 3) := by decide +kernel
theorem dX11_busiest_9 : decode cX11_busiest 9 = .ok (.iconst (-1), 1) := by decide +kernel
theorem dX11_busiest_10 : decode cX11_busiest 10 = .ok (.istore_n 1, 1) := by decide +kernel
theorem dX11_busiest_11 : decode cX11_busiest 11 = .ok (.iconst 0, 1) := by decide +kernel
theorem dX11_busiest_12 : decode cX11_busiest 12 = .ok (.istore_n 2, 1) := by decide +kernel
theorem dX11_busiest_13 : decode cX11_busiest 13 = .ok (.aload_n 0, 1) := by decide +kernel
theorem dX11_busiest_14 : decode cX11_busiest 14 = .ok (.ldc_w 464, 3) := by decide +kernel
theorem dX11_busiest_17 : decode cX11_busiest 17 = .ok (.invokevirtual 461, 3) := by decide +kernel
theorem dX11_busiest_20 : decode cX11_busiest 20 = .ok (.ifCond .eq 36, 3) := by decide +kernel
theorem dX11_busiest_56 : decode cX11_busiest 56 = .ok (.aload_n 0, 1) := by decide +kernel
theorem dX11_busiest_57 : decode cX11_busiest 57 = .ok (.invokevirtual 440, 3) := by decide +kernel
theorem dX11_busiest_60 : decode cX11_busiest 60 = .ok (.iload_n 1, 1) := by decide +kernel
theorem dX11_busiest_61 : decode cX11_busiest 61 = .ok (.iconst (-1), 1) := by decide +kernel
theorem dX11_busiest_62 : decode cX11_busiest 62 = .ok (.if_icmp .ne 7, 3) := by decide +kernel
theorem dX11_busiest_65 : decode cX11_busiest 65 = .ok (.iconst (-1), 1) := by decide +kernel
theorem dX11_busiest_66 : decode cX11_busiest 66 = .ok (.goto 12, 3) := by decide +kernel
theorem dX11_busiest_78 : decode cX11_busiest 78 = .ok (.ireturn, 1) := by decide +kernel
theorem dX11_frees_0 : decode cX11_frees 0 = .ok (.aload_n 0, 1) := by decide +kernel
theorem dX11_frees_1 : decode cX11_frees 1 = .ok (.aload_n 0, 1) := by decide +kernel
theorem dX11_frees_2 : decode cX11_frees 2 = .ok (.iload_n 1, 1) := by decide +kernel
theorem dX11_frees_3 : decode cX11_frees 3 = .ok (.i2l, 1) := by decide +kernel
theorem dX11_frees_4 : decode cX11_frees 4 = .ok (.invokevirtual 363, 3) := by decide +kernel
theorem dX11_frees_7 : decode cX11_frees 7 = .ok (.ifCond .ne 7, 3) := by decide +kernel
theorem dX11_frees_10 : decode cX11_frees 10 = .ok (.iconst 1, 1) := by decide +kernel
theorem dX11_frees_11 : decode cX11_frees 11 = .ok (.goto 17, 3) := by decide +kernel
theorem dX11_frees_28 : decode cX11_frees 28 = .ok (.putfield 70, 3) := by decide +kernel
theorem dX11_frees_31 : decode cX11_frees 31 = .ok (.aload_n 0, 1) := by decide +kernel
theorem dX11_frees_32 : decode cX11_frees 32 = .ok (.getfield 70, 3) := by decide +kernel
theorem dX11_frees_35 : decode cX11_frees 35 = .ok (.ifCond .le 7, 3) := by decide +kernel
theorem dX11_frees_38 : decode cX11_frees 38 = .ok (.iconst 0, 1) := by decide +kernel
theorem dX11_frees_39 : decode cX11_frees 39 = .ok (.goto 25, 3) := by decide +kernel
theorem dX11_frees_64 : decode cX11_frees 64 = .ok (.ireturn, 1) := by decide +kernel
theorem dX11_heightIn_0 : decode cX11_heightIn 0 = .ok (.aload_n 0, 1) := by decide +kernel
theorem dX11_heightIn_1 : decode cX11_heightIn 1 = .ok (.aload_n 0, 1) := by decide +kernel
theorem dX11_heightIn_2 : decode cX11_heightIn 2 = .ok (.iload_n 1, 1) := by decide +kernel
theorem dX11_heightIn_3 : decode cX11_heightIn 3 = .ok (.i2l, 1) := by decide +kernel
theorem dX11_heightIn_4 : decode cX11_heightIn 4 = .ok (.invokevirtual 286, 3) := by decide +kernel
theorem dX11_heightIn_7 : decode cX11_heightIn 7 = .ok (.ifCond .ne 7, 3) := by decide +kernel
theorem dX11_heightIn_10 : decode cX11_heightIn 10 = .ok (.iconst 1, 1) := by decide +kernel
theorem dX11_heightIn_11 : decode cX11_heightIn 11 = .ok (.goto 20, 3) := by decide +kernel
theorem dX11_heightIn_14 : decode cX11_heightIn 14 = .ok (.iload_n 2, 1) := by decide +kernel
theorem dX11_heightIn_15 : decode cX11_heightIn 15 = .ok (.i2l, 1) := by decide +kernel
theorem dX11_heightIn_16 : decode cX11_heightIn 16 = .ok (.lconst 0, 1) := by decide +kernel
theorem dX11_heightIn_17 : decode cX11_heightIn 17 = .ok (.ldc2_w 377, 3) := by decide +kernel
theorem dX11_heightIn_20 : decode cX11_heightIn 20 = .ok (.invokestatic 131, 3) := by decide +kernel
theorem dX11_heightIn_23 : decode cX11_heightIn 23 = .ok (.ifCond .eq 7, 3) := by decide +kernel
theorem dX11_heightIn_26 : decode cX11_heightIn 26 = .ok (.iconst 0, 1) := by decide +kernel
theorem dX11_heightIn_27 : decode cX11_heightIn 27 = .ok (.goto 4, 3) := by decide +kernel
theorem dX11_heightIn_30 : decode cX11_heightIn 30 = .ok (.iconst 2, 1) := by decide +kernel
theorem dX11_heightIn_31 : decode cX11_heightIn 31 = .ok (.putfield 70, 3) := by decide +kernel
theorem dX11_heightIn_34 : decode cX11_heightIn 34 = .ok (.aload_n 0, 1) := by decide +kernel
theorem dX11_heightIn_35 : decode cX11_heightIn 35 = .ok (.getfield 70, 3) := by decide +kernel
theorem dX11_heightIn_38 : decode cX11_heightIn 38 = .ok (.ifCond .le 5, 3) := by decide +kernel
theorem dX11_heightIn_41 : decode cX11_heightIn 41 = .ok (.iconst 0, 1) := by decide +kernel
theorem dX11_heightIn_42 : decode cX11_heightIn 42 = .ok (.ireturn, 1) := by decide +kernel
theorem dX11_heightIn_43 : decode cX11_heightIn 43 = .ok (.aload_n 0, 1) := by decide +kernel
theorem dX11_heightIn_44 : decode cX11_heightIn 44 = .ok (.invokevirtual 425, 3) := by decide +kernel
theorem dX11_heightIn_47 : decode cX11_heightIn 47 = .ok (.aload_n 0, 1) := by decide +kernel
theorem dX11_heightIn_48 : decode cX11_heightIn 48 = .ok (.getfield 9, 3) := by decide +kernel
theorem dX11_heightIn_51 : decode cX11_heightIn 51 = .ok (.bipush 40, 2) := by decide +kernel
theorem dX11_heightIn_53 : decode cX11_heightIn 53 = .ok (.iaload, 1) := by decide +kernel
theorem dX11_heightIn_54 : decode cX11_heightIn 54 = .ok (.iload_n 2, 1) := by decide +kernel
theorem dX11_heightIn_55 : decode cX11_heightIn 55 = .ok (.iadd, 1) := by decide +kernel
theorem dX11_heightIn_56 : decode cX11_heightIn 56 = .ok (.istore_n 3, 1) := by decide +kernel
theorem dX11_heightIn_57 : decode cX11_heightIn 57 = .ok (.iload_n 2, 1) := by decide +kernel
theorem dX11_heightIn_58 : decode cX11_heightIn 58 = .ok (.ifCond .le 7, 3) := by decide +kernel
theorem dX11_heightIn_61 : decode cX11_heightIn 61 = .ok (.iconst 1, 1) := by decide +kernel
theorem dX11_heightIn_62 : decode cX11_heightIn 62 = .ok (.goto 4, 3) := by decide +kernel
theorem dX11_heightIn_65 : decode cX11_heightIn 65 = .ok (.iconst 0, 1) := by decide +kernel
theorem dX11_heightIn_66 : decode cX11_heightIn 66 = .ok (.istore 4, 2) := by decide +kernel
theorem dX11_heightIn_68 : decode cX11_heightIn 68 = .ok (.iload 4, 2) := by decide +kernel
theorem dX11_heightIn_70 : decode cX11_heightIn 70 = .ok (.ifCond .eq 13, 3) := by decide +kernel
theorem dX11_heightIn_73 : decode cX11_heightIn 73 = .ok (.aload_n 0, 1) := by decide +kernel
theorem dX11_heightIn_74 : decode cX11_heightIn 74 = .ok (.iload_n 3, 1) := by decide +kernel
theorem dX11_heightIn_75 : decode cX11_heightIn 75 = .ok (.invokevirtual 461, 3) := by decide +kernel
theorem dX11_heightIn_78 : decode cX11_heightIn 78 = .ok (.istore 4, 2) := by decide +kernel
theorem dX11_heightIn_80 : decode cX11_heightIn 80 = .ok (.goto (-12), 3) := by decide +kernel
theorem dX11_heightIn_83 : decode cX11_heightIn 83 = .ok (.aload_n 0, 1) := by decide +kernel
theorem dX11_heightIn_84 : decode cX11_heightIn 84 = .ok (.iload_n 1, 1) := by decide +kernel
theorem dX11_heightIn_85 : decode cX11_heightIn 85 = .ok (.invokevirtual 311, 3) := by decide +kernel
theorem dX11_heightIn_88 : decode cX11_heightIn 88 = .ok (.istore 5, 2) := by decide +kernel
theorem dX11_heightIn_90 : decode cX11_heightIn 90 = .ok (.aload_n 0, 1) := by decide +kernel
theorem dX11_heightIn_91 : decode cX11_heightIn 91 = .ok (.invokevirtual 440, 3) := by decide +kernel
theorem dX11_heightIn_94 : decode cX11_heightIn 94 = .ok (.iload 5, 2) := by decide +kernel
theorem dX11_heightIn_96 : decode cX11_heightIn 96 = .ok (.ireturn, 1) := by decide +kernel
theorem dX11_hurtIn_0 : decode cX11_hurtIn 0 = .ok (.aload_n 0, 1) := by decide +kernel
theorem dX11_hurtIn_1 : decode cX11_hurtIn 1 = .ok (.iconst 0, 1) := by decide +kernel
theorem dX11_hurtIn_2 : decode cX11_hurtIn 2 = .ok (.putfield 70, 3) := by decide +kernel
theorem dX11_hurtIn_5 : decode cX11_hurtIn 5 = .ok (.aload_n 0, 1) := by decide +kernel
theorem dX11_hurtIn_6 : decode cX11_hurtIn 6 = .ok (.iload_n 1, 1) := by decide +kernel
theorem dX11_hurtIn_7 : decode cX11_hurtIn 7 = .ok (.invokevirtual 368, 3) := by decide +kernel
theorem dX11_hurtIn_10 : decode cX11_hurtIn 10 = .ok (.ifCond .ne 9, 3) := by decide +kernel
theorem dX11_hurtIn_13 : decode cX11_hurtIn 13 = .ok (.aload_n 0, 1) := by decide +kernel
theorem dX11_hurtIn_14 : decode cX11_hurtIn 14 = .ok (.iconst 1, 1) := by decide +kernel
theorem dX11_hurtIn_15 : decode cX11_hurtIn 15 = .ok (.invokevirtual 269, 3) := by decide +kernel
theorem dX11_hurtIn_18 : decode cX11_hurtIn 18 = .ok (.ireturn, 1) := by decide +kernel
theorem dX11_hurts_0 : decode cX11_hurts 0 = .ok (.aload_n 0, 1) := by decide +kernel
theorem dX11_hurts_1 : decode cX11_hurts 1 = .ok (.iconst 0, 1) := by decide +kernel
theorem dX11_hurts_2 : decode cX11_hurts 2 = .ok (.putfield 70, 3) := by decide +kernel
theorem dX11_hurts_5 : decode cX11_hurts 5 = .ok (.aload_n 0, 1) := by decide +kernel
theorem dX11_hurts_6 : decode cX11_hurts 6 = .ok (.iload_n 1, 1) := by decide +kernel
theorem dX11_hurts_7 : decode cX11_hurts 7 = .ok (.invokevirtual 368, 3) := by decide +kernel
theorem dX11_hurts_10 : decode cX11_hurts 10 = .ok (.ifCond .ne 9, 3) := by decide +kernel
theorem dX11_hurts_13 : decode cX11_hurts 13 = .ok (.aload_n 0, 1) := by decide +kernel
theorem dX11_hurts_14 : decode cX11_hurts 14 = .ok (.iconst 1, 1) := by decide +kernel
theorem dX11_hurts_15 : decode cX11_hurts 15 = .ok (.invokevirtual 269, 3) := by decide +kernel
theorem dX11_hurts_18 : decode cX11_hurts 18 = .ok (.ireturn, 1) := by decide +kernel
theorem dX11_spares_0 : decode cX11_spares 0 = .ok (.aload_n 0, 1) := by decide +kernel
theorem dX11_spares_1 : decode cX11_spares 1 = .ok (.aload_n 0, 1) := by decide +kernel
theorem dX11_spares_2 : decode cX11_spares 2 = .ok (.iload_n 1, 1) := by decide +kernel
theorem dX11_spares_3 : decode cX11_spares 3 = .ok (.invokevirtual 368, 3) := by decide +kernel
theorem dX11_spares_6 : decode cX11_spares 6 = .ok (.ifCond .eq 16, 3) := by decide +kernel
theorem dX11_spares_22 : decode cX11_spares 22 = .ok (.iconst 1, 1) := by decide +kernel
theorem dX11_spares_23 : decode cX11_spares 23 = .ok (.putfield 70, 3) := by decide +kernel
theorem dX11_spares_26 : decode cX11_spares 26 = .ok (.aload_n 0, 1) := by decide +kernel
theorem dX11_spares_27 : decode cX11_spares 27 = .ok (.getfield 70, 3) := by decide +kernel
theorem dX11_spares_30 : decode cX11_spares 30 = .ok (.ifCond .le 5, 3) := by decide +kernel
theorem dX11_spares_33 : decode cX11_spares 33 = .ok (.iconst 0, 1) := by decide +kernel
theorem dX11_spares_34 : decode cX11_spares 34 = .ok (.ireturn, 1) := by decide +kernel
theorem dX11_isWaitOut_0 : decode cX11_isWaitOut 0 = .ok (.aload_n 0, 1) := by decide +kernel
theorem dX11_isWaitOut_1 : decode cX11_isWaitOut 1 = .ok (.aload_n 0, 1) := by decide +kernel
theorem dX11_isWaitOut_2 : decode cX11_isWaitOut 2 = .ok (.iload_n 1, 1) := by decide +kernel
theorem dX11_isWaitOut_3 : decode cX11_isWaitOut 3 = .ok (.i2l, 1) := by decide +kernel
theorem dX11_isWaitOut_4 : decode cX11_isWaitOut 4 = .ok (.invokevirtual 363, 3) := by decide +kernel
theorem dX11_isWaitOut_7 : decode cX11_isWaitOut 7 = .ok (.ifCond .eq 14, 3) := by decide +kernel
theorem dX11_isWaitOut_21 : decode cX11_isWaitOut 21 = .ok (.iconst 1, 1) := by decide +kernel
theorem dX11_isWaitOut_22 : decode cX11_isWaitOut 22 = .ok (.goto 17, 3) := by decide +kernel
theorem dX11_isWaitOut_39 : decode cX11_isWaitOut 39 = .ok (.putfield 70, 3) := by decide +kernel
theorem dX11_isWaitOut_42 : decode cX11_isWaitOut 42 = .ok (.aload_n 0, 1) := by decide +kernel
theorem dX11_isWaitOut_43 : decode cX11_isWaitOut 43 = .ok (.getfield 70, 3) := by decide +kernel
theorem dX11_isWaitOut_46 : decode cX11_isWaitOut 46 = .ok (.ifCond .le 7, 3) := by decide +kernel
theorem dX11_isWaitOut_49 : decode cX11_isWaitOut 49 = .ok (.iconst 1, 1) := by decide +kernel
theorem dX11_isWaitOut_50 : decode cX11_isWaitOut 50 = .ok (.goto 4, 3) := by decide +kernel
theorem dX11_isWaitOut_54 : decode cX11_isWaitOut 54 = .ok (.ireturn, 1) := by decide +kernel
theorem dX11_fallsBy_0 : decode cX11_fallsBy 0 = .ok (.aload_n 0, 1) := by decide +kernel
theorem dX11_fallsBy_1 : decode cX11_fallsBy 1 = .ok (.iload_n 1, 1) := by decide +kernel
theorem dX11_fallsBy_2 : decode cX11_fallsBy 2 = .ok (.iload_n 2, 1) := by decide +kernel
theorem dX11_fallsBy_3 : decode cX11_fallsBy 3 = .ok (.iload_n 3, 1) := by decide +kernel
theorem dX11_fallsBy_4 : decode cX11_fallsBy 4 = .ok (.invokevirtual 474, 3) := by decide +kernel
theorem dX11_fallsBy_7 : decode cX11_fallsBy 7 = .ok (.ifCond .ne 21, 3) := by decide +kernel
theorem dX11_fallsBy_28 : decode cX11_fallsBy 28 = .ok (.aload_n 0, 1) := by decide +kernel
theorem dX11_fallsBy_29 : decode cX11_fallsBy 29 = .ok (.getfield 70, 3) := by decide +kernel
theorem dX11_fallsBy_32 : decode cX11_fallsBy 32 = .ok (.ifCond .le 5, 3) := by decide +kernel
theorem dX11_fallsBy_35 : decode cX11_fallsBy 35 = .ok (.iconst 0, 1) := by decide +kernel
theorem dX11_fallsBy_36 : decode cX11_fallsBy 36 = .ok (.ireturn, 1) := by decide +kernel
theorem dX11_waitFor_0 : decode cX11_waitFor 0 = .ok (.aload_n 0, 1) := by decide +kernel
theorem dX11_waitFor_1 : decode cX11_waitFor 1 = .ok (.iload_n 1, 1) := by decide +kernel
theorem dX11_waitFor_2 : decode cX11_waitFor 2 = .ok (.iload_n 2, 1) := by decide +kernel
theorem dX11_waitFor_3 : decode cX11_waitFor 3 = .ok (.iload_n 3, 1) := by decide +kernel
theorem dX11_waitFor_4 : decode cX11_waitFor 4 = .ok (.invokevirtual 474, 3) := by decide +kernel
theorem dX11_waitFor_7 : decode cX11_waitFor 7 = .ok (.ifCond .ne 21, 3) := by decide +kernel
theorem dX11_waitFor_28 : decode cX11_waitFor 28 = .ok (.aload_n 0, 1) := by decide +kernel
theorem dX11_waitFor_29 : decode cX11_waitFor 29 = .ok (.getfield 70, 3) := by decide +kernel
theorem dX11_waitFor_32 : decode cX11_waitFor 32 = .ok (.ifCond .le 7, 3) := by decide +kernel
theorem dX11_waitFor_35 : decode cX11_waitFor 35 = .ok (.iconst 0, 1) := by decide +kernel
theorem dX11_waitFor_36 : decode cX11_waitFor 36 = .ok (.goto 12, 3) := by decide +kernel
theorem dX11_waitFor_48 : decode cX11_waitFor 48 = .ok (.ireturn, 1) := by decide +kernel
theorem dX11_waitSafe_0 : decode cX11_waitSafe 0 = .ok (.aload_n 0, 1) := by decide +kernel
theorem dX11_waitSafe_1 : decode cX11_waitSafe 1 = .ok (.iload_n 1, 1) := by decide +kernel
theorem dX11_waitSafe_2 : decode cX11_waitSafe 2 = .ok (.iload_n 2, 1) := by decide +kernel
theorem dX11_waitSafe_3 : decode cX11_waitSafe 3 = .ok (.iload_n 3, 1) := by decide +kernel
theorem dX11_waitSafe_4 : decode cX11_waitSafe 4 = .ok (.invokevirtual 474, 3) := by decide +kernel
theorem dX11_waitSafe_7 : decode cX11_waitSafe 7 = .ok (.ifCond .eq 5, 3) := by decide +kernel
theorem dX11_waitSafe_10 : decode cX11_waitSafe 10 = .ok (.iconst 0, 1) := by decide +kernel
theorem dX11_waitSafe_11 : decode cX11_waitSafe 11 = .ok (.ireturn, 1) := by decide +kernel
theorem dX11_waitHurt_0 : decode cX11_waitHurt 0 = .ok (.aload_n 0, 1) := by decide +kernel
theorem dX11_waitHurt_1 : decode cX11_waitHurt 1 = .ok (.aload_n 0, 1) := by decide +kernel
theorem dX11_waitHurt_2 : decode cX11_waitHurt 2 = .ok (.iload_n 1, 1) := by decide +kernel
theorem dX11_waitHurt_3 : decode cX11_waitHurt 3 = .ok (.i2l, 1) := by decide +kernel
theorem dX11_waitHurt_4 : decode cX11_waitHurt 4 = .ok (.invokevirtual 363, 3) := by decide +kernel
theorem dX11_waitHurt_7 : decode cX11_waitHurt 7 = .ok (.ifCond .eq 23, 3) := by decide +kernel
theorem dX11_waitHurt_30 : decode cX11_waitHurt 30 = .ok (.iconst 1, 1) := by decide +kernel
theorem dX11_waitHurt_31 : decode cX11_waitHurt 31 = .ok (.goto 17, 3) := by decide +kernel
theorem dX11_waitHurt_48 : decode cX11_waitHurt 48 = .ok (.putfield 70, 3) := by decide +kernel
theorem dX11_waitHurt_51 : decode cX11_waitHurt 51 = .ok (.aload_n 0, 1) := by decide +kernel
theorem dX11_waitHurt_52 : decode cX11_waitHurt 52 = .ok (.getfield 70, 3) := by decide +kernel
theorem dX11_waitHurt_55 : decode cX11_waitHurt 55 = .ok (.ifCond .le 5, 3) := by decide +kernel
theorem dX11_waitHurt_58 : decode cX11_waitHurt 58 = .ok (.iconst 0, 1) := by decide +kernel
theorem dX11_waitHurt_59 : decode cX11_waitHurt 59 = .ok (.ireturn, 1) := by decide +kernel
theorem dX11_place_0 : decode cX11_place 0 = .ok (.aload_n 0, 1) := by decide +kernel
theorem dX11_place_1 : decode cX11_place 1 = .ok (.aload_n 0, 1) := by decide +kernel
theorem dX11_place_2 : decode cX11_place 2 = .ok (.iload_n 1, 1) := by decide +kernel
theorem dX11_place_3 : decode cX11_place 3 = .ok (.i2l, 1) := by decide +kernel
theorem dX11_place_4 : decode cX11_place 4 = .ok (.invokevirtual 363, 3) := by decide +kernel
theorem dX11_place_7 : decode cX11_place 7 = .ok (.ifCond .ne 7, 3) := by decide +kernel
theorem dX11_place_10 : decode cX11_place 10 = .ok (.iconst 1, 1) := by decide +kernel
theorem dX11_place_11 : decode cX11_place 11 = .ok (.goto 17, 3) := by decide +kernel
theorem dX11_place_28 : decode cX11_place 28 = .ok (.putfield 70, 3) := by decide +kernel
theorem dX11_place_31 : decode cX11_place 31 = .ok (.aload_n 0, 1) := by decide +kernel
theorem dX11_place_32 : decode cX11_place 32 = .ok (.getfield 70, 3) := by decide +kernel
theorem dX11_place_35 : decode cX11_place 35 = .ok (.ifCond .le 5, 3) := by decide +kernel
theorem dX11_place_38 : decode cX11_place 38 = .ok (.iconst 0, 1) := by decide +kernel
theorem dX11_place_39 : decode cX11_place 39 = .ok (.ireturn, 1) := by decide +kernel
theorem dX11_worst_0 : decode cX11_worst 0 = .ok (.aload_n 0, 1) := by decide +kernel
theorem dX11_worst_1 : decode cX11_worst 1 = .ok (.aload_n 0, 1) := by decide +kernel
theorem dX11_worst_2 : decode cX11_worst 2 = .ok (.iload_n 1, 1) := by decide +kernel
theorem dX11_worst_3 : decode cX11_worst 3 = .ok (.i2l, 1) := by decide +kernel
theorem dX11_worst_4 : decode cX11_worst 4 = .ok (.invokevirtual 363, 3) := by decide +kernel
theorem dX11_worst_7 : decode cX11_worst 7 = .ok (.ifCond .ne 7, 3) := by decide +kernel
theorem dX11_worst_10 : decode cX11_worst 10 = .ok (.iconst 1, 1) := by decide +kernel
theorem dX11_worst_11 : decode cX11_worst 11 = .ok (.goto 31, 3) := by decide +kernel
theorem dX11_worst_42 : decode cX11_worst 42 = .ok (.putfield 70, 3) := by decide +kernel
theorem dX11_worst_45 : decode cX11_worst 45 = .ok (.aload_n 0, 1) := by decide +kernel
theorem dX11_worst_46 : decode cX11_worst 46 = .ok (.getfield 70, 3) := by decide +kernel
theorem dX11_worst_49 : decode cX11_worst 49 = .ok (.ifCond .le 5, 3) := by decide +kernel
theorem dX11_worst_52 : decode cX11_worst 52 = .ok (.iconst 0, 1) := by decide +kernel
theorem dX11_worst_53 : decode cX11_worst 53 = .ok (.ireturn, 1) := by decide +kernel
theorem dX11_both_0 : decode cX11_both 0 = .ok (.aload_n 0, 1) := by decide +kernel
theorem dX11_both_1 : decode cX11_both 1 = .ok (.aload_n 0, 1) := by decide +kernel
theorem dX11_both_2 : decode cX11_both 2 = .ok (.iload_n 1, 1) := by decide +kernel
theorem dX11_both_3 : decode cX11_both 3 = .ok (.i2l, 1) := by decide +kernel
theorem dX11_both_4 : decode cX11_both 4 = .ok (.invokevirtual 363, 3) := by decide +kernel
theorem dX11_both_7 : decode cX11_both 7 = .ok (.ifCond .eq 37, 3) := by decide +kernel
theorem dX11_both_44 : decode cX11_both 44 = .ok (.iconst 1, 1) := by decide +kernel
theorem dX11_both_45 : decode cX11_both 45 = .ok (.goto 54, 3) := by decide +kernel
theorem dX11_both_99 : decode cX11_both 99 = .ok (.putfield 70, 3) := by decide +kernel
theorem dX11_both_102 : decode cX11_both 102 = .ok (.aload_n 0, 1) := by decide +kernel
theorem dX11_both_103 : decode cX11_both 103 = .ok (.getfield 70, 3) := by decide +kernel
theorem dX11_both_106 : decode cX11_both 106 = .ok (.ifCond .le 5, 3) := by decide +kernel
theorem dX11_both_109 : decode cX11_both 109 = .ok (.iconst 0, 1) := by decide +kernel
theorem dX11_both_110 : decode cX11_both 110 = .ok (.ireturn, 1) := by decide +kernel
theorem dX11_laysFalling_0 : decode cX11_laysFalling 0 = .ok (.aload_n 0, 1) := by decide +kernel
theorem dX11_laysFalling_1 : decode cX11_laysFalling 1 = .ok (.invokevirtual 425, 3) := by decide +kernel
theorem dX11_laysFalling_4 : decode cX11_laysFalling 4 = .ok (.aload_n 0, 1) := by decide +kernel
theorem dX11_laysFalling_5 : decode cX11_laysFalling 5 = .ok (.getfield 42, 3) := by decide +kernel
theorem dX11_laysFalling_8 : decode cX11_laysFalling 8 = .ok (.iconst 0, 1) := by decide +kernel
theorem dX11_laysFalling_9 : decode cX11_laysFalling 9 = .ok (.iconst 0, 1) := by decide +kernel
theorem dX11_laysFalling_10 : decode cX11_laysFalling 10 = .ok (.iastore, 1) := by decide +kernel
theorem dX11_laysFalling_11 : decode cX11_laysFalling 11 = .ok (.iconst 1, 1) := by decide +kernel
theorem dX11_laysFalling_12 : decode cX11_laysFalling 12 = .ok (.istore_n 1, 1) := by decide +kernel
theorem dX11_laysFalling_13 : decode cX11_laysFalling 13 = .ok (.iload_n 1, 1) := by decide +kernel
theorem dX11_laysFalling_14 : decode cX11_laysFalling 14 = .ok (.bipush 60, 2) := by decide +kernel
theorem dX11_laysFalling_16 : decode cX11_laysFalling 16 = .ok (.if_icmp .gt 23, 3) := by decide +kernel
theorem dX11_laysFalling_19 : decode cX11_laysFalling 19 = .ok (.aload_n 0, 1) := by decide +kernel
theorem dX11_laysFalling_20 : decode cX11_laysFalling 20 = .ok (.invokevirtual 401, 3) := by decide +kernel
theorem dX11_laysFalling_23 : decode cX11_laysFalling 23 = .ok (.aload_n 0, 1) := by decide +kernel
theorem dX11_laysFalling_24 : decode cX11_laysFalling 24 = .ok (.getfield 42, 3) := by decide +kernel
theorem dX11_laysFalling_27 : decode cX11_laysFalling 27 = .ok (.iload_n 1, 1) := by decide +kernel
theorem dX11_laysFalling_28 : decode cX11_laysFalling 28 = .ok (.aload_n 0, 1) := by decide +kernel
theorem dX11_laysFalling_29 : decode cX11_laysFalling 29 = .ok (.getfield 342, 3) := by decide +kernel
theorem dX11_laysFalling_32 : decode cX11_laysFalling 32 = .ok (.iastore, 1) := by decide +kernel
theorem dX11_laysFalling_33 : decode cX11_laysFalling 33 = .ok (.iinc 1 1, 3) := by decide +kernel
theorem dX11_laysFalling_36 : decode cX11_laysFalling 36 = .ok (.goto (-23), 3) := by decide +kernel
theorem dX11_laysFalling_39 : decode cX11_laysFalling 39 = .ok (.aload_n 0, 1) := by decide +kernel
theorem dX11_laysFalling_40 : decode cX11_laysFalling 40 = .ok (.invokevirtual 440, 3) := by decide +kernel
theorem dX11_laysFalling_43 : decode cX11_laysFalling 43 = .ok (.return_, 1) := by decide +kernel
theorem dX11_allColumns_0 : decode cX11_allColumns 0 = .ok (.iconst 1, 1) := by decide +kernel
theorem dX11_allColumns_1 : decode cX11_allColumns 1 = .ok (.aload_n 0, 1) := by decide +kernel
theorem dX11_allColumns_2 : decode cX11_allColumns 2 = .ok (.getfield 9, 3) := by decide +kernel
theorem dX11_allColumns_5 : decode cX11_allColumns 5 = .ok (.iconst 1, 1) := by decide +kernel
theorem dX11_allColumns_6 : decode cX11_allColumns 6 = .ok (.iaload, 1) := by decide +kernel
theorem dX11_allColumns_7 : decode cX11_allColumns 7 = .ok (.ishl, 1) := by decide +kernel
theorem dX11_allColumns_8 : decode cX11_allColumns 8 = .ok (.iconst 1, 1) := by decide +kernel
theorem dX11_allColumns_9 : decode cX11_allColumns 9 = .ok (.isub, 1) := by decide +kernel
theorem dX11_allColumns_10 : decode cX11_allColumns 10 = .ok (.ireturn, 1) := by decide +kernel
theorem dX11_beside_0 : decode cX11_beside 0 = .ok (.iload_n 1, 1) := by decide +kernel
theorem dX11_beside_1 : decode cX11_beside 1 = .ok (.iload_n 1, 1) := by decide +kernel
theorem dX11_beside_2 : decode cX11_beside 2 = .ok (.iconst 1, 1) := by decide +kernel
theorem dX11_beside_3 : decode cX11_beside 3 = .ok (.ishl, 1) := by decide +kernel
theorem dX11_beside_4 : decode cX11_beside 4 = .ok (.ior, 1) := by decide +kernel
theorem dX11_beside_5 : decode cX11_beside 5 = .ok (.iload_n 1, 1) := by decide +kernel
theorem dX11_beside_6 : decode cX11_beside 6 = .ok (.iconst 1, 1) := by decide +kernel
theorem dX11_beside_7 : decode cX11_beside 7 = .ok (.ishr, 1) := by decide +kernel
theorem dX11_beside_8 : decode cX11_beside 8 = .ok (.ior, 1) := by decide +kernel
theorem dX11_beside_9 : decode cX11_beside 9 = .ok (.aload_n 0, 1) := by decide +kernel
theorem dX11_beside_10 : decode cX11_beside 10 = .ok (.invokevirtual 490, 3) := by decide +kernel
theorem dX11_beside_13 : decode cX11_beside 13 = .ok (.iand, 1) := by decide +kernel
theorem dX11_beside_14 : decode cX11_beside 14 = .ok (.ireturn, 1) := by decide +kernel
theorem dX11_laysComes_0 : decode cX11_laysComes 0 = .ok (.aload_n 0, 1) := by decide +kernel
theorem dX11_laysComes_1 : decode cX11_laysComes 1 = .ok (.invokevirtual 493, 3) := by decide +kernel
theorem dX11_laysComes_4 : decode cX11_laysComes 4 = .ok (.aload_n 0, 1) := by decide +kernel
theorem dX11_laysComes_5 : decode cX11_laysComes 5 = .ok (.getfield 45, 3) := by decide +kernel
theorem dX11_laysComes_8 : decode cX11_laysComes 8 = .ok (.iconst 0, 1) := by decide +kernel
theorem dX11_laysComes_9 : decode cX11_laysComes 9 = .ok (.iconst 1, 1) := by decide +kernel
theorem dX11_laysComes_10 : decode cX11_laysComes 10 = .ok (.iload_n 1, 1) := by decide +kernel
theorem dX11_laysComes_11 : decode cX11_laysComes 11 = .ok (.ishl, 1) := by decide +kernel
theorem dX11_laysComes_12 : decode cX11_laysComes 12 = .ok (.iastore, 1) := by decide +kernel
theorem dX11_laysComes_13 : decode cX11_laysComes 13 = .ok (.iconst 1, 1) := by decide +kernel
theorem dX11_laysComes_14 : decode cX11_laysComes 14 = .ok (.istore_n 2, 1) := by decide +kernel
theorem dX11_laysComes_15 : decode cX11_laysComes 15 = .ok (.iload_n 2, 1) := by decide +kernel
theorem dX11_laysComes_16 : decode cX11_laysComes 16 = .ok (.bipush 60, 2) := by decide +kernel
theorem dX11_laysComes_18 : decode cX11_laysComes 18 = .ok (.if_icmp .gt 36, 3) := by decide +kernel
theorem dX11_laysComes_21 : decode cX11_laysComes 21 = .ok (.aload_n 0, 1) := by decide +kernel
theorem dX11_laysComes_22 : decode cX11_laysComes 22 = .ok (.getfield 45, 3) := by decide +kernel
theorem dX11_laysComes_25 : decode cX11_laysComes 25 = .ok (.iload_n 2, 1) := by decide +kernel
theorem dX11_laysComes_26 : decode cX11_laysComes 26 = .ok (.aload_n 0, 1) := by decide +kernel
theorem dX11_laysComes_27 : decode cX11_laysComes 27 = .ok (.aload_n 0, 1) := by decide +kernel
theorem dX11_laysComes_28 : decode cX11_laysComes 28 = .ok (.getfield 45, 3) := by decide +kernel
theorem dX11_laysComes_31 : decode cX11_laysComes 31 = .ok (.iload_n 2, 1) := by decide +kernel
theorem dX11_laysComes_32 : decode cX11_laysComes 32 = .ok (.iconst 1, 1) := by decide +kernel
theorem dX11_laysComes_33 : decode cX11_laysComes 33 = .ok (.isub, 1) := by decide +kernel
theorem dX11_laysComes_34 : decode cX11_laysComes 34 = .ok (.iaload, 1) := by decide +kernel
theorem dX11_laysComes_35 : decode cX11_laysComes 35 = .ok (.invokevirtual 496, 3) := by decide +kernel
theorem dX11_laysComes_38 : decode cX11_laysComes 38 = .ok (.aload_n 0, 1) := by decide +kernel
theorem dX11_laysComes_39 : decode cX11_laysComes 39 = .ok (.getfield 42, 3) := by decide +kernel
theorem dX11_laysComes_42 : decode cX11_laysComes 42 = .ok (.iload_n 2, 1) := by decide +kernel
theorem dX11_laysComes_43 : decode cX11_laysComes 43 = .ok (.iaload, 1) := by decide +kernel
theorem dX11_laysComes_44 : decode cX11_laysComes 44 = .ok (.iconst (-1), 1) := by decide +kernel
theorem dX11_laysComes_45 : decode cX11_laysComes 45 = .ok (.ixor, 1) := by decide +kernel
theorem dX11_laysComes_46 : decode cX11_laysComes 46 = .ok (.iand, 1) := by decide +kernel
theorem dX11_laysComes_47 : decode cX11_laysComes 47 = .ok (.iastore, 1) := by decide +kernel
theorem dX11_laysComes_48 : decode cX11_laysComes 48 = .ok (.iinc 2 1, 3) := by decide +kernel
theorem dX11_laysComes_51 : decode cX11_laysComes 51 = .ok (.goto (-36), 3) := by decide +kernel
theorem dX11_laysComes_54 : decode cX11_laysComes 54 = .ok (.return_, 1) := by decide +kernel
theorem dX11_laysWay_0 : decode cX11_laysWay 0 = .ok (.aload_n 0, 1) := by decide +kernel
theorem dX11_laysWay_1 : decode cX11_laysWay 1 = .ok (.iload_n 1, 1) := by decide +kernel
theorem dX11_laysWay_2 : decode cX11_laysWay 2 = .ok (.invokevirtual 499, 3) := by decide +kernel
theorem dX11_laysWay_5 : decode cX11_laysWay 5 = .ok (.iconst 0, 1) := by decide +kernel
theorem dX11_laysWay_6 : decode cX11_laysWay 6 = .ok (.istore_n 3, 1) := by decide +kernel
theorem dX11_laysWay_7 : decode cX11_laysWay 7 = .ok (.iload_n 3, 1) := by decide +kernel
theorem dX11_laysWay_8 : decode cX11_laysWay 8 = .ok (.bipush 60, 2) := by decide +kernel
theorem dX11_laysWay_10 : decode cX11_laysWay 10 = .ok (.if_icmp .gt 22, 3) := by decide +kernel
theorem dX11_laysWay_13 : decode cX11_laysWay 13 = .ok (.aload_n 0, 1) := by decide +kernel
theorem dX11_laysWay_14 : decode cX11_laysWay 14 = .ok (.getfield 45, 3) := by decide +kernel
theorem dX11_laysWay_17 : decode cX11_laysWay 17 = .ok (.iload_n 3, 1) := by decide +kernel
theorem dX11_laysWay_18 : decode cX11_laysWay 18 = .ok (.iaload, 1) := by decide +kernel
theorem dX11_laysWay_19 : decode cX11_laysWay 19 = .ok (.iload_n 2, 1) := by decide +kernel
theorem dX11_laysWay_20 : decode cX11_laysWay 20 = .ok (.invokestatic 323, 3) := by decide +kernel
theorem dX11_laysWay_23 : decode cX11_laysWay 23 = .ok (.ifCond .ne 9, 3) := by decide +kernel
theorem dX11_laysWay_32 : decode cX11_laysWay 32 = .ok (.iload_n 3, 1) := by decide +kernel
theorem dX11_laysWay_33 : decode cX11_laysWay 33 = .ok (.bipush 60, 2) := by decide +kernel
theorem dX11_laysWay_35 : decode cX11_laysWay 35 = .ok (.if_icmp .le 5, 3) := by decide +kernel
theorem dX11_laysWay_40 : decode cX11_laysWay 40 = .ok (.aload_n 0, 1) := by decide +kernel
theorem dX11_laysWay_41 : decode cX11_laysWay 41 = .ok (.getfield 48, 3) := by decide +kernel
theorem dX11_laysWay_44 : decode cX11_laysWay 44 = .ok (.iload_n 3, 1) := by decide +kernel
theorem dX11_laysWay_45 : decode cX11_laysWay 45 = .ok (.iconst 1, 1) := by decide +kernel
theorem dX11_laysWay_46 : decode cX11_laysWay 46 = .ok (.iload_n 2, 1) := by decide +kernel
theorem dX11_laysWay_47 : decode cX11_laysWay 47 = .ok (.ishl, 1) := by decide +kernel
theorem dX11_laysWay_48 : decode cX11_laysWay 48 = .ok (.iastore, 1) := by decide +kernel
theorem dX11_laysWay_49 : decode cX11_laysWay 49 = .ok (.iload_n 3, 1) := by decide +kernel
theorem dX11_laysWay_50 : decode cX11_laysWay 50 = .ok (.iconst 1, 1) := by decide +kernel
theorem dX11_laysWay_51 : decode cX11_laysWay 51 = .ok (.isub, 1) := by decide +kernel
theorem dX11_laysWay_52 : decode cX11_laysWay 52 = .ok (.istore 4, 2) := by decide +kernel
theorem dX11_laysWay_54 : decode cX11_laysWay 54 = .ok (.iload 4, 2) := by decide +kernel
theorem dX11_laysWay_56 : decode cX11_laysWay 56 = .ok (.ifCond .lt 37, 3) := by decide +kernel
theorem dX11_laysWay_93 : decode cX11_laysWay 93 = .ok (.iload_n 1, 1) := by decide +kernel
theorem dX11_laysWay_94 : decode cX11_laysWay 94 = .ok (.istore 4, 2) := by decide +kernel
theorem dX11_laysWay_96 : decode cX11_laysWay 96 = .ok (.iconst 0, 1) := by decide +kernel
theorem dX11_laysWay_97 : decode cX11_laysWay 97 = .ok (.istore 5, 2) := by decide +kernel
theorem dX11_laysWay_99 : decode cX11_laysWay 99 = .ok (.iload 5, 2) := by decide +kernel
theorem dX11_laysWay_101 : decode cX11_laysWay 101 = .ok (.iload_n 3, 1) := by decide +kernel
theorem dX11_laysWay_102 : decode cX11_laysWay 102 = .ok (.if_icmp .gt 66, 3) := by decide +kernel
theorem dX11_laysWay_105 : decode cX11_laysWay 105 = .ok (.iload 5, 2) := by decide +kernel
theorem dX11_laysWay_107 : decode cX11_laysWay 107 = .ok (.ifCond .ne 9, 3) := by decide +kernel
theorem dX11_laysWay_110 : decode cX11_laysWay 110 = .ok (.iconst 1, 1) := by decide +kernel
theorem dX11_laysWay_111 : decode cX11_laysWay 111 = .ok (.iload_n 1, 1) := by decide +kernel
theorem dX11_laysWay_112 : decode cX11_laysWay 112 = .ok (.ishl, 1) := by decide +kernel
theorem dX11_laysWay_113 : decode cX11_laysWay 113 = .ok (.goto 19, 3) := by decide +kernel
theorem dX11_laysWay_132 : decode cX11_laysWay 132 = .ok (.istore 6, 2) := by decide +kernel
theorem dX11_laysWay_134 : decode cX11_laysWay 134 = .ok (.iconst 0, 1) := by decide +kernel
theorem dX11_laysWay_135 : decode cX11_laysWay 135 = .ok (.istore 4, 2) := by decide +kernel
theorem dX11_laysWay_137 : decode cX11_laysWay 137 = .ok (.iload 6, 2) := by decide +kernel
theorem dX11_laysWay_139 : decode cX11_laysWay 139 = .ok (.iload 4, 2) := by decide +kernel
theorem dX11_laysWay_141 : decode cX11_laysWay 141 = .ok (.invokestatic 323, 3) := by decide +kernel
theorem dX11_laysWay_144 : decode cX11_laysWay 144 = .ok (.ifCond .ne 9, 3) := by decide +kernel
theorem dX11_laysWay_153 : decode cX11_laysWay 153 = .ok (.aload_n 0, 1) := by decide +kernel
theorem dX11_laysWay_154 : decode cX11_laysWay 154 = .ok (.getfield 51, 3) := by decide +kernel
theorem dX11_laysWay_157 : decode cX11_laysWay 157 = .ok (.iload 5, 2) := by decide +kernel
theorem dX11_laysWay_159 : decode cX11_laysWay 159 = .ok (.iload 4, 2) := by decide +kernel
theorem dX11_laysWay_161 : decode cX11_laysWay 161 = .ok (.iastore, 1) := by decide +kernel
theorem dX11_laysWay_162 : decode cX11_laysWay 162 = .ok (.iinc 5 1, 3) := by decide +kernel
theorem dX11_laysWay_165 : decode cX11_laysWay 165 = .ok (.goto (-66), 3) := by decide +kernel
theorem dX11_laysWay_168 : decode cX11_laysWay 168 = .ok (.iload_n 3, 1) := by decide +kernel
theorem dX11_laysWay_169 : decode cX11_laysWay 169 = .ok (.ireturn, 1) := by decide +kernel
theorem dX11_safeWay_0 : decode cX11_safeWay 0 = .ok (.aload_n 0, 1) := by decide +kernel
theorem dX11_safeWay_1 : decode cX11_safeWay 1 = .ok (.aload_n 0, 1) := by decide +kernel
theorem dX11_safeWay_2 : decode cX11_safeWay 2 = .ok (.iload_n 1, 1) := by decide +kernel
theorem dX11_safeWay_3 : decode cX11_safeWay 3 = .ok (.i2l, 1) := by decide +kernel
theorem dX11_safeWay_4 : decode cX11_safeWay 4 = .ok (.invokevirtual 286, 3) := by decide +kernel
theorem dX11_safeWay_7 : decode cX11_safeWay 7 = .ok (.ifCond .eq 12, 3) := by decide +kernel
theorem dX11_safeWay_10 : decode cX11_safeWay 10 = .ok (.aload_n 0, 1) := by decide +kernel
theorem dX11_safeWay_11 : decode cX11_safeWay 11 = .ok (.iload_n 2, 1) := by decide +kernel
theorem dX11_safeWay_12 : decode cX11_safeWay 12 = .ok (.i2l, 1) := by decide +kernel
theorem dX11_safeWay_13 : decode cX11_safeWay 13 = .ok (.invokevirtual 286, 3) := by decide +kernel
theorem dX11_safeWay_16 : decode cX11_safeWay 16 = .ok (.ifCond .ne 7, 3) := by decide +kernel
theorem dX11_safeWay_19 : decode cX11_safeWay 19 = .ok (.iconst 1, 1) := by decide +kernel
theorem dX11_safeWay_20 : decode cX11_safeWay 20 = .ok (.goto 26, 3) := by decide +kernel
theorem dX11_safeWay_23 : decode cX11_safeWay 23 = .ok (.iload_n 3, 1) := by decide +kernel
theorem dX11_safeWay_24 : decode cX11_safeWay 24 = .ok (.ifCond .eq 17, 3) := by decide +kernel
theorem dX11_safeWay_27 : decode cX11_safeWay 27 = .ok (.iload_n 3, 1) := by decide +kernel
theorem dX11_safeWay_28 : decode cX11_safeWay 28 = .ok (.i2l, 1) := by decide +kernel
theorem dX11_safeWay_29 : decode cX11_safeWay 29 = .ok (.ldc2_w 403, 3) := by decide +kernel
theorem dX11_safeWay_32 : decode cX11_safeWay 32 = .ok (.ldc2_w 502, 3) := by decide +kernel
theorem dX11_safeWay_35 : decode cX11_safeWay 35 = .ok (.invokestatic 131, 3) := by decide +kernel
theorem dX11_safeWay_38 : decode cX11_safeWay 38 = .ok (.ifCond .eq 7, 3) := by decide +kernel
theorem dX11_safeWay_41 : decode cX11_safeWay 41 = .ok (.iconst 0, 1) := by decide +kernel
theorem dX11_safeWay_42 : decode cX11_safeWay 42 = .ok (.goto 4, 3) := by decide +kernel
theorem dX11_safeWay_45 : decode cX11_safeWay 45 = .ok (.iconst 2, 1) := by decide +kernel
theorem dX11_safeWay_46 : decode cX11_safeWay 46 = .ok (.putfield 70, 3) := by decide +kernel
theorem dX11_safeWay_49 : decode cX11_safeWay 49 = .ok (.aload_n 0, 1) := by decide +kernel
theorem dX11_safeWay_50 : decode cX11_safeWay 50 = .ok (.getfield 70, 3) := by decide +kernel
theorem dX11_safeWay_53 : decode cX11_safeWay 53 = .ok (.ifCond .le 5, 3) := by decide +kernel
theorem dX11_safeWay_56 : decode cX11_safeWay 56 = .ok (.iconst 0, 1) := by decide +kernel
theorem dX11_safeWay_57 : decode cX11_safeWay 57 = .ok (.ireturn, 1) := by decide +kernel
theorem dX11_safeWay_58 : decode cX11_safeWay 58 = .ok (.aload_n 0, 1) := by decide +kernel
theorem dX11_safeWay_59 : decode cX11_safeWay 59 = .ok (.iload_n 1, 1) := by decide +kernel
theorem dX11_safeWay_60 : decode cX11_safeWay 60 = .ok (.iload_n 2, 1) := by decide +kernel
theorem dX11_safeWay_61 : decode cX11_safeWay 61 = .ok (.invokevirtual 504, 3) := by decide +kernel
theorem dX11_safeWay_64 : decode cX11_safeWay 64 = .ok (.istore 4, 2) := by decide +kernel
theorem dX11_safeWay_66 : decode cX11_safeWay 66 = .ok (.iload 4, 2) := by decide +kernel
theorem dX11_safeWay_68 : decode cX11_safeWay 68 = .ok (.iconst (-1), 1) := by decide +kernel
theorem dX11_safeWay_69 : decode cX11_safeWay 69 = .ok (.if_icmp .eq 7, 3) := by decide +kernel
theorem dX11_safeWay_72 : decode cX11_safeWay 72 = .ok (.iload_n 3, 1) := by decide +kernel
theorem dX11_safeWay_73 : decode cX11_safeWay 73 = .ok (.ifCond .ne 8, 3) := by decide +kernel
theorem dX11_safeWay_76 : decode cX11_safeWay 76 = .ok (.iload 4, 2) := by decide +kernel
theorem dX11_safeWay_78 : decode cX11_safeWay 78 = .ok (.goto 25, 3) := by decide +kernel
theorem dX11_safeWay_81 : decode cX11_safeWay 81 = .ok (.iload_n 3, 1) := by decide +kernel
theorem dX11_safeWay_82 : decode cX11_safeWay 82 = .ok (.bipush 10, 2) := by decide +kernel
theorem dX11_safeWay_84 : decode cX11_safeWay 84 = .ok (.isub, 1) := by decide +kernel
theorem dX11_safeWay_85 : decode cX11_safeWay 85 = .ok (.iload 4, 2) := by decide +kernel
theorem dX11_safeWay_87 : decode cX11_safeWay 87 = .ok (.if_icmp .gt 15, 3) := by decide +kernel
theorem dX11_safeWay_90 : decode cX11_safeWay 90 = .ok (.aload_n 0, 1) := by decide +kernel
theorem dX11_safeWay_91 : decode cX11_safeWay 91 = .ok (.getfield 51, 3) := by decide +kernel
theorem dX11_safeWay_94 : decode cX11_safeWay 94 = .ok (.iload_n 3, 1) := by decide +kernel
theorem dX11_safeWay_95 : decode cX11_safeWay 95 = .ok (.bipush 10, 2) := by decide +kernel
theorem dX11_safeWay_97 : decode cX11_safeWay 97 = .ok (.isub, 1) := by decide +kernel
theorem dX11_safeWay_98 : decode cX11_safeWay 98 = .ok (.iaload, 1) := by decide +kernel
theorem dX11_safeWay_99 : decode cX11_safeWay 99 = .ok (.goto 4, 3) := by decide +kernel
theorem dX11_safeWay_102 : decode cX11_safeWay 102 = .ok (.iconst (-1), 1) := by decide +kernel
theorem dX11_safeWay_103 : decode cX11_safeWay 103 = .ok (.ireturn, 1) := by decide +kernel
theorem dX11_safeWays_0 : decode cX11_safeWays 0 = .ok (.aload_n 0, 1) := by decide +kernel
theorem dX11_safeWays_1 : decode cX11_safeWays 1 = .ok (.aload_n 0, 1) := by decide +kernel
theorem dX11_safeWays_2 : decode cX11_safeWays 2 = .ok (.iload_n 1, 1) := by decide +kernel
theorem dX11_safeWays_3 : decode cX11_safeWays 3 = .ok (.i2l, 1) := by decide +kernel
theorem dX11_safeWays_4 : decode cX11_safeWays 4 = .ok (.invokevirtual 286, 3) := by decide +kernel
theorem dX11_safeWays_7 : decode cX11_safeWays 7 = .ok (.ifCond .eq 12, 3) := by decide +kernel
theorem dX11_safeWays_10 : decode cX11_safeWays 10 = .ok (.aload_n 0, 1) := by decide +kernel
theorem dX11_safeWays_11 : decode cX11_safeWays 11 = .ok (.iload_n 2, 1) := by decide +kernel
theorem dX11_safeWays_12 : decode cX11_safeWays 12 = .ok (.i2l, 1) := by decide +kernel
theorem dX11_safeWays_13 : decode cX11_safeWays 13 = .ok (.invokevirtual 286, 3) := by decide +kernel
theorem dX11_safeWays_16 : decode cX11_safeWays 16 = .ok (.ifCond .ne 7, 3) := by decide +kernel
theorem dX11_safeWays_19 : decode cX11_safeWays 19 = .ok (.iconst 1, 1) := by decide +kernel
theorem dX11_safeWays_20 : decode cX11_safeWays 20 = .ok (.goto 20, 3) := by decide +kernel
theorem dX11_safeWays_23 : decode cX11_safeWays 23 = .ok (.iload_n 3, 1) := by decide +kernel
theorem dX11_safeWays_24 : decode cX11_safeWays 24 = .ok (.i2l, 1) := by decide +kernel
theorem dX11_safeWays_25 : decode cX11_safeWays 25 = .ok (.lconst 0, 1) := by decide +kernel
theorem dX11_safeWays_26 : decode cX11_safeWays 26 = .ok (.ldc2_w 507, 3) := by decide +kernel
theorem dX11_safeWays_29 : decode cX11_safeWays 29 = .ok (.invokestatic 131, 3) := by decide +kernel
theorem dX11_safeWays_32 : decode cX11_safeWays 32 = .ok (.ifCond .eq 7, 3) := by decide +kernel
theorem dX11_safeWays_35 : decode cX11_safeWays 35 = .ok (.iconst 0, 1) := by decide +kernel
theorem dX11_safeWays_36 : decode cX11_safeWays 36 = .ok (.goto 4, 3) := by decide +kernel
theorem dX11_safeWays_39 : decode cX11_safeWays 39 = .ok (.iconst 2, 1) := by decide +kernel
theorem dX11_safeWays_40 : decode cX11_safeWays 40 = .ok (.putfield 70, 3) := by decide +kernel
theorem dX11_safeWays_43 : decode cX11_safeWays 43 = .ok (.aload_n 0, 1) := by decide +kernel
theorem dX11_safeWays_44 : decode cX11_safeWays 44 = .ok (.getfield 70, 3) := by decide +kernel
theorem dX11_safeWays_47 : decode cX11_safeWays 47 = .ok (.ifCond .le 5, 3) := by decide +kernel
theorem dX11_safeWays_50 : decode cX11_safeWays 50 = .ok (.lconst 0, 1) := by decide +kernel
theorem dX11_safeWays_51 : decode cX11_safeWays 51 = .ok (.lreturn, 1) := by decide +kernel
theorem dX11_safeWays_52 : decode cX11_safeWays 52 = .ok (.aload_n 0, 1) := by decide +kernel
theorem dX11_safeWays_53 : decode cX11_safeWays 53 = .ok (.invokevirtual 493, 3) := by decide +kernel
theorem dX11_safeWays_56 : decode cX11_safeWays 56 = .ok (.iconst 0, 1) := by decide +kernel
theorem dX11_safeWays_57 : decode cX11_safeWays 57 = .ok (.istore 4, 2) := by decide +kernel
theorem dX11_safeWays_59 : decode cX11_safeWays 59 = .ok (.iload 4, 2) := by decide +kernel
theorem dX11_safeWays_61 : decode cX11_safeWays 61 = .ok (.bipush 6, 2) := by decide +kernel
theorem dX11_safeWays_63 : decode cX11_safeWays 63 = .ok (.if_icmp .ge 27, 3) := by decide +kernel
theorem dX11_safeWays_66 : decode cX11_safeWays 66 = .ok (.aload_n 0, 1) := by decide +kernel
theorem dX11_safeWays_67 : decode cX11_safeWays 67 = .ok (.getfield 54, 3) := by decide +kernel
theorem dX11_safeWays_70 : decode cX11_safeWays 70 = .ok (.iload 4, 2) := by decide +kernel
theorem dX11_safeWays_72 : decode cX11_safeWays 72 = .ok (.iload 4, 2) := by decide +kernel
theorem dX11_safeWays_74 : decode cX11_safeWays 74 = .ok (.iload_n 1, 1) := by decide +kernel
theorem dX11_safeWays_75 : decode cX11_safeWays 75 = .ok (.if_icmp .ne 7, 3) := by decide +kernel
theorem dX11_safeWays_78 : decode cX11_safeWays 78 = .ok (.lconst 1, 1) := by decide +kernel
theorem dX11_safeWays_79 : decode cX11_safeWays 79 = .ok (.goto 4, 3) := by decide +kernel
theorem dX11_safeWays_82 : decode cX11_safeWays 82 = .ok (.lconst 0, 1) := by decide +kernel
theorem dX11_safeWays_83 : decode cX11_safeWays 83 = .ok (.lastore, 1) := by decide +kernel
theorem dX11_safeWays_84 : decode cX11_safeWays 84 = .ok (.iinc 4 1, 3) := by decide +kernel
theorem dX11_safeWays_87 : decode cX11_safeWays 87 = .ok (.goto (-28), 3) := by decide +kernel
theorem dX11_safeWays_90 : decode cX11_safeWays 90 = .ok (.iconst 1, 1) := by decide +kernel
theorem dX11_safeWays_91 : decode cX11_safeWays 91 = .ok (.istore 4, 2) := by decide +kernel
theorem dX11_safeWays_93 : decode cX11_safeWays 93 = .ok (.iload 4, 2) := by decide +kernel
theorem dX11_safeWays_95 : decode cX11_safeWays 95 = .ok (.iload_n 3, 1) := by decide +kernel
theorem dX11_safeWays_96 : decode cX11_safeWays 96 = .ok (.if_icmp .gt 20, 3) := by decide +kernel
theorem dX11_safeWays_99 : decode cX11_safeWays 99 = .ok (.aload_n 0, 1) := by decide +kernel
theorem dX11_safeWays_100 : decode cX11_safeWays 100 = .ok (.aload_n 0, 1) := by decide +kernel
theorem dX11_safeWays_101 : decode cX11_safeWays 101 = .ok (.getfield 42, 3) := by decide +kernel
theorem dX11_safeWays_104 : decode cX11_safeWays 104 = .ok (.iload 4, 2) := by decide +kernel
theorem dX11_safeWays_106 : decode cX11_safeWays 106 = .ok (.iaload, 1) := by decide +kernel
theorem dX11_safeWays_107 : decode cX11_safeWays 107 = .ok (.invokevirtual 509, 3) := by decide +kernel
theorem dX11_safeWays_110 : decode cX11_safeWays 110 = .ok (.iinc 4 1, 3) := by decide +kernel
theorem dX11_safeWays_113 : decode cX11_safeWays 113 = .ok (.goto (-20), 3) := by decide +kernel
theorem dX11_safeWays_116 : decode cX11_safeWays 116 = .ok (.aload_n 0, 1) := by decide +kernel
theorem dX11_safeWays_117 : decode cX11_safeWays 117 = .ok (.getfield 54, 3) := by decide +kernel
theorem dX11_safeWays_120 : decode cX11_safeWays 120 = .ok (.iload_n 2, 1) := by decide +kernel
theorem dX11_safeWays_121 : decode cX11_safeWays 121 = .ok (.laload, 1) := by decide +kernel
theorem dX11_safeWays_122 : decode cX11_safeWays 122 = .ok (.lreturn, 1) := by decide +kernel
theorem dX11_countsOn_0 : decode cX11_countsOn 0 = .ok (.iconst 0, 1) := by decide +kernel
theorem dX11_countsOn_1 : decode cX11_countsOn 1 = .ok (.istore_n 2, 1) := by decide +kernel
theorem dX11_countsOn_2 : decode cX11_countsOn 2 = .ok (.iload_n 2, 1) := by decide +kernel
theorem dX11_countsOn_3 : decode cX11_countsOn 3 = .ok (.bipush 6, 2) := by decide +kernel
theorem dX11_countsOn_5 : decode cX11_countsOn 5 = .ok (.if_icmp .ge 56, 3) := by decide +kernel
theorem dX11_countsOn_8 : decode cX11_countsOn 8 = .ok (.aload_n 0, 1) := by decide +kernel
theorem dX11_countsOn_9 : decode cX11_countsOn 9 = .ok (.getfield 58, 3) := by decide +kernel
theorem dX11_countsOn_12 : decode cX11_countsOn 12 = .ok (.iload_n 2, 1) := by decide +kernel
theorem dX11_countsOn_13 : decode cX11_countsOn 13 = .ok (.lconst 0, 1) := by decide +kernel
theorem dX11_countsOn_14 : decode cX11_countsOn 14 = .ok (.lastore, 1) := by decide +kernel
theorem dX11_countsOn_15 : decode cX11_countsOn 15 = .ok (.iconst 0, 1) := by decide +kernel
theorem dX11_countsOn_16 : decode cX11_countsOn 16 = .ok (.iload_n 2, 1) := by decide +kernel
theorem dX11_countsOn_17 : decode cX11_countsOn 17 = .ok (.iconst 1, 1) := by decide +kernel
theorem dX11_countsOn_18 : decode cX11_countsOn 18 = .ok (.isub, 1) := by decide +kernel
theorem dX11_countsOn_19 : decode cX11_countsOn 19 = .ok (.invokestatic 318, 3) := by decide +kernel
theorem dX11_countsOn_22 : decode cX11_countsOn 22 = .ok (.istore_n 3, 1) := by decide +kernel
theorem dX11_countsOn_23 : decode cX11_countsOn 23 = .ok (.iload_n 3, 1) := by decide +kernel
theorem dX11_countsOn_24 : decode cX11_countsOn 24 = .ok (.iconst 5, 1) := by decide +kernel
theorem dX11_countsOn_25 : decode cX11_countsOn 25 = .ok (.iload_n 2, 1) := by decide +kernel
theorem dX11_countsOn_26 : decode cX11_countsOn 26 = .ok (.iconst 1, 1) := by decide +kernel
theorem dX11_countsOn_27 : decode cX11_countsOn 27 = .ok (.iadd, 1) := by decide +kernel
theorem dX11_countsOn_28 : decode cX11_countsOn 28 = .ok (.invokestatic 316, 3) := by decide +kernel
theorem dX11_countsOn_31 : decode cX11_countsOn 31 = .ok (.if_icmp .gt 24, 3) := by decide +kernel
theorem dX11_countsOn_34 : decode cX11_countsOn 34 = .ok (.aload_n 0, 1) := by decide +kernel
theorem dX11_countsOn_35 : decode cX11_countsOn 35 = .ok (.getfield 58, 3) := by decide +kernel
theorem dX11_countsOn_38 : decode cX11_countsOn 38 = .ok (.iload_n 2, 1) := by decide +kernel
theorem dX11_countsOn_39 : decode cX11_countsOn 39 = .ok (.dup2, 1) := by decide +kernel
theorem dX11_countsOn_40 : decode cX11_countsOn 40 = .ok (.laload, 1) := by decide +kernel
theorem dX11_countsOn_41 : decode cX11_countsOn 41 = .ok (.aload_n 0, 1) := by decide +kernel
theorem dX11_countsOn_42 : decode cX11_countsOn 42 = .ok (.getfield 54, 3) := by decide +kernel
theorem dX11_countsOn_45 : decode cX11_countsOn 45 = .ok (.iload_n 3, 1) := by decide +kernel
theorem dX11_countsOn_46 : decode cX11_countsOn 46 = .ok (.laload, 1) := by decide +kernel
theorem dX11_countsOn_47 : decode cX11_countsOn 47 = .ok (.ladd, 1) := by decide +kernel
theorem dX11_countsOn_48 : decode cX11_countsOn 48 = .ok (.lastore, 1) := by decide +kernel
theorem dX11_countsOn_49 : decode cX11_countsOn 49 = .ok (.iinc 3 1, 3) := by decide +kernel
theorem dX11_countsOn_52 : decode cX11_countsOn 52 = .ok (.goto (-29), 3) := by decide +kernel
theorem dX11_countsOn_55 : decode cX11_countsOn 55 = .ok (.iinc 2 1, 3) := by decide +kernel
theorem dX11_countsOn_58 : decode cX11_countsOn 58 = .ok (.goto (-56), 3) := by decide +kernel
theorem dX11_countsOn_61 : decode cX11_countsOn 61 = .ok (.iconst 0, 1) := by decide +kernel
theorem dX11_countsOn_62 : decode cX11_countsOn 62 = .ok (.istore_n 2, 1) := by decide +kernel
theorem dX11_countsOn_63 : decode cX11_countsOn 63 = .ok (.iload_n 2, 1) := by decide +kernel
theorem dX11_countsOn_64 : decode cX11_countsOn 64 = .ok (.bipush 6, 2) := by decide +kernel
theorem dX11_countsOn_66 : decode cX11_countsOn 66 = .ok (.if_icmp .ge 42, 3) := by decide +kernel
theorem dX11_countsOn_69 : decode cX11_countsOn 69 = .ok (.aload_n 0, 1) := by decide +kernel
theorem dX11_countsOn_70 : decode cX11_countsOn 70 = .ok (.getfield 54, 3) := by decide +kernel
theorem dX11_countsOn_73 : decode cX11_countsOn 73 = .ok (.iload_n 2, 1) := by decide +kernel
theorem dX11_countsOn_74 : decode cX11_countsOn 74 = .ok (.aload_n 0, 1) := by decide +kernel
theorem dX11_countsOn_75 : decode cX11_countsOn 75 = .ok (.iload_n 2, 1) := by decide +kernel
theorem dX11_countsOn_76 : decode cX11_countsOn 76 = .ok (.i2l, 1) := by decide +kernel
theorem dX11_countsOn_77 : decode cX11_countsOn 77 = .ok (.invokevirtual 286, 3) := by decide +kernel
theorem dX11_countsOn_80 : decode cX11_countsOn 80 = .ok (.ifCond .eq 20, 3) := by decide +kernel
theorem dX11_countsOn_83 : decode cX11_countsOn 83 = .ok (.iload_n 1, 1) := by decide +kernel
theorem dX11_countsOn_84 : decode cX11_countsOn 84 = .ok (.iload_n 2, 1) := by decide +kernel
theorem dX11_countsOn_85 : decode cX11_countsOn 85 = .ok (.invokestatic 323, 3) := by decide +kernel
theorem dX11_countsOn_88 : decode cX11_countsOn 88 = .ok (.ifCond .ne 12, 3) := by decide +kernel
theorem dX11_countsOn_91 : decode cX11_countsOn 91 = .ok (.aload_n 0, 1) := by decide +kernel
theorem dX11_countsOn_92 : decode cX11_countsOn 92 = .ok (.getfield 58, 3) := by decide +kernel
theorem dX11_countsOn_95 : decode cX11_countsOn 95 = .ok (.iload_n 2, 1) := by decide +kernel
theorem dX11_countsOn_96 : decode cX11_countsOn 96 = .ok (.laload, 1) := by decide +kernel
theorem dX11_countsOn_97 : decode cX11_countsOn 97 = .ok (.goto 4, 3) := by decide +kernel
theorem dX11_countsOn_100 : decode cX11_countsOn 100 = .ok (.lconst 0, 1) := by decide +kernel
theorem dX11_countsOn_101 : decode cX11_countsOn 101 = .ok (.lastore, 1) := by decide +kernel
theorem dX11_countsOn_102 : decode cX11_countsOn 102 = .ok (.iinc 2 1, 3) := by decide +kernel
theorem dX11_countsOn_105 : decode cX11_countsOn 105 = .ok (.goto (-42), 3) := by decide +kernel
theorem dX11_countsOn_108 : decode cX11_countsOn 108 = .ok (.return_, 1) := by decide +kernel
theorem dX11_safeIn_0 : decode cX11_safeIn 0 = .ok (.aload_n 0, 1) := by decide +kernel
theorem dX11_safeIn_1 : decode cX11_safeIn 1 = .ok (.aload_n 0, 1) := by decide +kernel
theorem dX11_safeIn_2 : decode cX11_safeIn 2 = .ok (.iload_n 1, 1) := by decide +kernel
theorem dX11_safeIn_3 : decode cX11_safeIn 3 = .ok (.i2l, 1) := by decide +kernel
theorem dX11_safeIn_4 : decode cX11_safeIn 4 = .ok (.invokevirtual 286, 3) := by decide +kernel
theorem dX11_safeIn_7 : decode cX11_safeIn 7 = .ok (.ifCond .ne 7, 3) := by decide +kernel
theorem dX11_safeIn_10 : decode cX11_safeIn 10 = .ok (.iconst 1, 1) := by decide +kernel
theorem dX11_safeIn_11 : decode cX11_safeIn 11 = .ok (.goto 20, 3) := by decide +kernel
theorem dX11_safeIn_14 : decode cX11_safeIn 14 = .ok (.iload_n 2, 1) := by decide +kernel
theorem dX11_safeIn_15 : decode cX11_safeIn 15 = .ok (.i2l, 1) := by decide +kernel
theorem dX11_safeIn_16 : decode cX11_safeIn 16 = .ok (.lconst 0, 1) := by decide +kernel
theorem dX11_safeIn_17 : decode cX11_safeIn 17 = .ok (.ldc2_w 477, 3) := by decide +kernel
theorem dX11_safeIn_20 : decode cX11_safeIn 20 = .ok (.invokestatic 131, 3) := by decide +kernel
theorem dX11_safeIn_23 : decode cX11_safeIn 23 = .ok (.ifCond .eq 7, 3) := by decide +kernel
theorem dX11_safeIn_26 : decode cX11_safeIn 26 = .ok (.iconst 0, 1) := by decide +kernel
theorem dX11_safeIn_27 : decode cX11_safeIn 27 = .ok (.goto 4, 3) := by decide +kernel
theorem dX11_safeIn_30 : decode cX11_safeIn 30 = .ok (.iconst 2, 1) := by decide +kernel
theorem dX11_safeIn_31 : decode cX11_safeIn 31 = .ok (.putfield 70, 3) := by decide +kernel
theorem dX11_safeIn_34 : decode cX11_safeIn 34 = .ok (.aload_n 0, 1) := by decide +kernel
theorem dX11_safeIn_35 : decode cX11_safeIn 35 = .ok (.getfield 70, 3) := by decide +kernel
theorem dX11_safeIn_38 : decode cX11_safeIn 38 = .ok (.ifCond .le 5, 3) := by decide +kernel
theorem dX11_safeIn_41 : decode cX11_safeIn 41 = .ok (.iconst 0, 1) := by decide +kernel
theorem dX11_safeIn_42 : decode cX11_safeIn 42 = .ok (.ireturn, 1) := by decide +kernel
theorem dX11_safeIn_43 : decode cX11_safeIn 43 = .ok (.aload_n 0, 1) := by decide +kernel
theorem dX11_safeIn_44 : decode cX11_safeIn 44 = .ok (.iload_n 1, 1) := by decide +kernel
theorem dX11_safeIn_45 : decode cX11_safeIn 45 = .ok (.invokevirtual 499, 3) := by decide +kernel
theorem dX11_safeIn_48 : decode cX11_safeIn 48 = .ok (.aload_n 0, 1) := by decide +kernel
theorem dX11_safeIn_49 : decode cX11_safeIn 49 = .ok (.getfield 45, 3) := by decide +kernel
theorem dX11_safeIn_52 : decode cX11_safeIn 52 = .ok (.iload_n 2, 1) := by decide +kernel
theorem dX11_safeIn_53 : decode cX11_safeIn 53 = .ok (.iaload, 1) := by decide +kernel
theorem dX11_safeIn_54 : decode cX11_safeIn 54 = .ok (.ireturn, 1) := by decide +kernel
theorem dX11_shelter_0 : decode cX11_shelter 0 = .ok (.aload_n 0, 1) := by decide +kernel
theorem dX11_shelter_1 : decode cX11_shelter 1 = .ok (.iconst 0, 1) := by decide +kernel
theorem dX11_shelter_2 : decode cX11_shelter 2 = .ok (.putfield 70, 3) := by decide +kernel
theorem dX11_shelter_5 : decode cX11_shelter 5 = .ok (.aload_n 0, 1) := by decide +kernel
theorem dX11_shelter_6 : decode cX11_shelter 6 = .ok (.invokevirtual 493, 3) := by decide +kernel
theorem dX11_shelter_9 : decode cX11_shelter 9 = .ok (.iconst 0, 1) := by decide +kernel
theorem dX11_shelter_10 : decode cX11_shelter 10 = .ok (.istore_n 1, 1) := by decide +kernel
theorem dX11_shelter_11 : decode cX11_shelter 11 = .ok (.iconst 0, 1) := by decide +kernel
theorem dX11_shelter_12 : decode cX11_shelter 12 = .ok (.istore_n 2, 1) := by decide +kernel
theorem dX11_shelter_13 : decode cX11_shelter 13 = .ok (.iconst 0, 1) := by decide +kernel
theorem dX11_shelter_14 : decode cX11_shelter 14 = .ok (.istore_n 3, 1) := by decide +kernel
theorem dX11_shelter_15 : decode cX11_shelter 15 = .ok (.iload_n 3, 1) := by decide +kernel
theorem dX11_shelter_16 : decode cX11_shelter 16 = .ok (.aload_n 0, 1) := by decide +kernel
theorem dX11_shelter_17 : decode cX11_shelter 17 = .ok (.getfield 9, 3) := by decide +kernel
theorem dX11_shelter_20 : decode cX11_shelter 20 = .ok (.iconst 1, 1) := by decide +kernel
theorem dX11_shelter_21 : decode cX11_shelter 21 = .ok (.iaload, 1) := by decide +kernel
theorem dX11_shelter_22 : decode cX11_shelter 22 = .ok (.if_icmp .ge 53, 3) := by decide +kernel
theorem dX11_shelter_25 : decode cX11_shelter 25 = .ok (.iconst 1, 1) := by decide +kernel
theorem dX11_shelter_26 : decode cX11_shelter 26 = .ok (.istore 4, 2) := by decide +kernel
theorem dX11_shelter_28 : decode cX11_shelter 28 = .ok (.iload 4, 2) := by decide +kernel
theorem dX11_shelter_30 : decode cX11_shelter 30 = .ok (.bipush 60, 2) := by decide +kernel
theorem dX11_shelter_32 : decode cX11_shelter 32 = .ok (.if_icmp .gt 23, 3) := by decide +kernel
theorem dX11_shelter_35 : decode cX11_shelter 35 = .ok (.aload_n 0, 1) := by decide +kernel
theorem dX11_shelter_36 : decode cX11_shelter 36 = .ok (.getfield 42, 3) := by decide +kernel
theorem dX11_shelter_39 : decode cX11_shelter 39 = .ok (.iload 4, 2) := by decide +kernel
theorem dX11_shelter_41 : decode cX11_shelter 41 = .ok (.iaload, 1) := by decide +kernel
theorem dX11_shelter_42 : decode cX11_shelter 42 = .ok (.iload_n 3, 1) := by decide +kernel
theorem dX11_shelter_43 : decode cX11_shelter 43 = .ok (.invokestatic 323, 3) := by decide +kernel
theorem dX11_shelter_46 : decode cX11_shelter 46 = .ok (.ifCond .ne 9, 3) := by decide +kernel
theorem dX11_shelter_49 : decode cX11_shelter 49 = .ok (.iinc 4 1, 3) := by decide +kernel
theorem dX11_shelter_52 : decode cX11_shelter 52 = .ok (.goto (-24), 3) := by decide +kernel
theorem dX11_shelter_55 : decode cX11_shelter 55 = .ok (.iload 4, 2) := by decide +kernel
theorem dX11_shelter_57 : decode cX11_shelter 57 = .ok (.iload_n 2, 1) := by decide +kernel
theorem dX11_shelter_58 : decode cX11_shelter 58 = .ok (.if_icmp .gt 6, 3) := by decide +kernel
theorem dX11_shelter_64 : decode cX11_shelter 64 = .ok (.iload_n 3, 1) := by decide +kernel
theorem dX11_shelter_65 : decode cX11_shelter 65 = .ok (.istore_n 1, 1) := by decide +kernel
theorem dX11_shelter_66 : decode cX11_shelter 66 = .ok (.iload 4, 2) := by decide +kernel
theorem dX11_shelter_68 : decode cX11_shelter 68 = .ok (.istore_n 2, 1) := by decide +kernel
theorem dX11_shelter_69 : decode cX11_shelter 69 = .ok (.iinc 3 1, 3) := by decide +kernel
theorem dX11_shelter_72 : decode cX11_shelter 72 = .ok (.goto (-57), 3) := by decide +kernel
theorem dX11_shelter_75 : decode cX11_shelter 75 = .ok (.iload_n 1, 1) := by decide +kernel
theorem dX11_shelter_76 : decode cX11_shelter 76 = .ok (.ireturn, 1) := by decide +kernel
theorem dX11_later_0 : decode cX11_later 0 = .ok (.aload_n 0, 1) := by decide +kernel
theorem dX11_later_1 : decode cX11_later 1 = .ok (.aload_n 0, 1) := by decide +kernel
theorem dX11_later_2 : decode cX11_later 2 = .ok (.iload_n 1, 1) := by decide +kernel
theorem dX11_later_3 : decode cX11_later 3 = .ok (.invokevirtual 368, 3) := by decide +kernel
theorem dX11_later_6 : decode cX11_later 6 = .ok (.ifCond .ne 7, 3) := by decide +kernel
theorem dX11_later_9 : decode cX11_later 9 = .ok (.iconst 1, 1) := by decide +kernel
theorem dX11_later_10 : decode cX11_later 10 = .ok (.goto 20, 3) := by decide +kernel
theorem dX11_later_30 : decode cX11_later 30 = .ok (.putfield 70, 3) := by decide +kernel
theorem dX11_later_33 : decode cX11_later 33 = .ok (.aload_n 0, 1) := by decide +kernel
theorem dX11_later_34 : decode cX11_later 34 = .ok (.getfield 70, 3) := by decide +kernel
theorem dX11_later_37 : decode cX11_later 37 = .ok (.ifCond .le 5, 3) := by decide +kernel
theorem dX11_later_40 : decode cX11_later 40 = .ok (.iconst 0, 1) := by decide +kernel
theorem dX11_later_41 : decode cX11_later 41 = .ok (.ireturn, 1) := by decide +kernel
theorem dX11_isJust_0 : decode cX11_isJust 0 = .ok (.aload_n 0, 1) := by decide +kernel
theorem dX11_isJust_1 : decode cX11_isJust 1 = .ok (.iload 5, 2) := by decide +kernel
theorem dX11_isJust_3 : decode cX11_isJust 3 = .ok (.iload_n 3, 1) := by decide +kernel
theorem dX11_isJust_4 : decode cX11_isJust 4 = .ok (.iload_n 1, 1) := by decide +kernel
theorem dX11_isJust_5 : decode cX11_isJust 5 = .ok (.iload_n 2, 1) := by decide +kernel
theorem dX11_isJust_6 : decode cX11_isJust 6 = .ok (.aload_n 0, 1) := by decide +kernel
theorem dX11_isJust_7 : decode cX11_isJust 7 = .ok (.getfield 9, 3) := by decide +kernel
theorem dX11_isJust_10 : decode cX11_isJust 10 = .ok (.bipush 40, 2) := by decide +kernel
theorem dX11_isJust_12 : decode cX11_isJust 12 = .ok (.iaload, 1) := by decide +kernel
theorem dX11_isJust_13 : decode cX11_isJust 13 = .ok (.iload 4, 2) := by decide +kernel
theorem dX11_isJust_15 : decode cX11_isJust 15 = .ok (.isub, 1) := by decide +kernel
theorem dX11_isJust_16 : decode cX11_isJust 16 = .ok (.invokevirtual 359, 3) := by decide +kernel
theorem dX11_isJust_19 : decode cX11_isJust 19 = .ok (.iload 4, 2) := by decide +kernel
theorem dX11_isJust_21 : decode cX11_isJust 21 = .ok (.if_icmp .ne 7, 3) := by decide +kernel
theorem dX11_isJust_24 : decode cX11_isJust 24 = .ok (.iconst 1, 1) := by decide +kernel
theorem dX11_isJust_25 : decode cX11_isJust 25 = .ok (.goto 4, 3) := by decide +kernel
theorem dX11_isJust_28 : decode cX11_isJust 28 = .ok (.iconst 0, 1) := by decide +kernel
theorem dX11_isJust_29 : decode cX11_isJust 29 = .ok (.ireturn, 1) := by decide +kernel
theorem dX11_isGoneOut_0 : decode cX11_isGoneOut 0 = .ok (.aload_n 0, 1) := by decide +kernel
theorem dX11_isGoneOut_1 : decode cX11_isGoneOut 1 = .ok (.aload_n 0, 1) := by decide +kernel
theorem dX11_isGoneOut_2 : decode cX11_isGoneOut 2 = .ok (.iload_n 1, 1) := by decide +kernel
theorem dX11_isGoneOut_3 : decode cX11_isGoneOut 3 = .ok (.i2l, 1) := by decide +kernel
theorem dX11_isGoneOut_4 : decode cX11_isGoneOut 4 = .ok (.iload_n 2, 1) := by decide +kernel
theorem dX11_isGoneOut_5 : decode cX11_isGoneOut 5 = .ok (.i2l, 1) := by decide +kernel
theorem dX11_isGoneOut_6 : decode cX11_isGoneOut 6 = .ok (.invokevirtual 373, 3) := by decide +kernel
theorem dX11_isGoneOut_9 : decode cX11_isGoneOut 9 = .ok (.ifCond .ne 7, 3) := by decide +kernel
theorem dX11_isGoneOut_12 : decode cX11_isGoneOut 12 = .ok (.iconst 1, 1) := by decide +kernel
theorem dX11_isGoneOut_13 : decode cX11_isGoneOut 13 = .ok (.goto 20, 3) := by decide +kernel
theorem dX11_isGoneOut_16 : decode cX11_isGoneOut 16 = .ok (.iload_n 3, 1) := by decide +kernel
theorem dX11_isGoneOut_17 : decode cX11_isGoneOut 17 = .ok (.i2l, 1) := by decide +kernel
theorem dX11_isGoneOut_18 : decode cX11_isGoneOut 18 = .ok (.lconst 1, 1) := by decide +kernel
theorem dX11_isGoneOut_19 : decode cX11_isGoneOut 19 = .ok (.ldc2_w 399, 3) := by decide +kernel
theorem dX11_isGoneOut_22 : decode cX11_isGoneOut 22 = .ok (.invokestatic 131, 3) := by decide +kernel
theorem dX11_isGoneOut_25 : decode cX11_isGoneOut 25 = .ok (.ifCond .eq 7, 3) := by decide +kernel
theorem dX11_isGoneOut_28 : decode cX11_isGoneOut 28 = .ok (.iconst 0, 1) := by decide +kernel
theorem dX11_isGoneOut_29 : decode cX11_isGoneOut 29 = .ok (.goto 4, 3) := by decide +kernel
theorem dX11_isGoneOut_32 : decode cX11_isGoneOut 32 = .ok (.iconst 2, 1) := by decide +kernel
theorem dX11_isGoneOut_33 : decode cX11_isGoneOut 33 = .ok (.putfield 70, 3) := by decide +kernel
theorem dX11_isGoneOut_36 : decode cX11_isGoneOut 36 = .ok (.aload_n 0, 1) := by decide +kernel
theorem dX11_isGoneOut_37 : decode cX11_isGoneOut 37 = .ok (.getfield 70, 3) := by decide +kernel
theorem dX11_isGoneOut_40 : decode cX11_isGoneOut 40 = .ok (.ifCond .le 7, 3) := by decide +kernel
theorem dX11_isGoneOut_43 : decode cX11_isGoneOut 43 = .ok (.iconst 1, 1) := by decide +kernel
theorem dX11_isGoneOut_44 : decode cX11_isGoneOut 44 = .ok (.goto 4, 3) := by decide +kernel
theorem dX11_isGoneOut_47 : decode cX11_isGoneOut 47 = .ok (.iconst 0, 1) := by decide +kernel
theorem dX11_isGoneOut_48 : decode cX11_isGoneOut 48 = .ok (.ireturn, 1) := by decide +kernel
theorem dX11_laysLet_0 : decode cX11_laysLet 0 = .ok (.iconst 0, 1) := by decide +kernel
theorem dX11_laysLet_1 : decode cX11_laysLet 1 = .ok (.istore 5, 2) := by decide +kernel
theorem dX11_laysLet_3 : decode cX11_laysLet 3 = .ok (.aload_n 0, 1) := by decide +kernel
theorem dX11_laysLet_4 : decode cX11_laysLet 4 = .ok (.iconst (-1), 1) := by decide +kernel
theorem dX11_laysLet_5 : decode cX11_laysLet 5 = .ok (.putfield 514, 3) := by decide +kernel
theorem dX11_laysLet_8 : decode cX11_laysLet 8 = .ok (.iconst 0, 1) := by decide +kernel
theorem dX11_laysLet_9 : decode cX11_laysLet 9 = .ok (.istore 6, 2) := by decide +kernel
theorem dX11_laysLet_11 : decode cX11_laysLet 11 = .ok (.iload 6, 2) := by decide +kernel
theorem dX11_laysLet_13 : decode cX11_laysLet 13 = .ok (.bipush 60, 2) := by decide +kernel
theorem dX11_laysLet_15 : decode cX11_laysLet 15 = .ok (.aload_n 0, 1) := by decide +kernel
theorem dX11_laysLet_16 : decode cX11_laysLet 16 = .ok (.getfield 9, 3) := by decide +kernel
theorem dX11_laysLet_19 : decode cX11_laysLet 19 = .ok (.bipush 40, 2) := by decide +kernel
theorem dX11_laysLet_21 : decode cX11_laysLet 21 = .ok (.iaload, 1) := by decide +kernel
theorem dX11_laysLet_22 : decode cX11_laysLet 22 = .ok (.invokestatic 316, 3) := by decide +kernel
theorem dX11_laysLet_25 : decode cX11_laysLet 25 = .ok (.if_icmp .gt 64, 3) := by decide +kernel
theorem dX11_laysLet_28 : decode cX11_laysLet 28 = .ok (.iconst 0, 1) := by decide +kernel
theorem dX11_laysLet_29 : decode cX11_laysLet 29 = .ok (.istore 7, 2) := by decide +kernel
theorem dX11_laysLet_31 : decode cX11_laysLet 31 = .ok (.iload 7, 2) := by decide +kernel
theorem dX11_laysLet_33 : decode cX11_laysLet 33 = .ok (.bipush 60, 2) := by decide +kernel
theorem dX11_laysLet_35 : decode cX11_laysLet 35 = .ok (.if_icmp .gt 48, 3) := by decide +kernel
theorem dX11_laysLet_38 : decode cX11_laysLet 38 = .ok (.aload_n 0, 1) := by decide +kernel
theorem dX11_laysLet_39 : decode cX11_laysLet 39 = .ok (.iload_n 1, 1) := by decide +kernel
theorem dX11_laysLet_40 : decode cX11_laysLet 40 = .ok (.iload_n 2, 1) := by decide +kernel
theorem dX11_laysLet_41 : decode cX11_laysLet 41 = .ok (.iload_n 3, 1) := by decide +kernel
theorem dX11_laysLet_42 : decode cX11_laysLet 42 = .ok (.iload 6, 2) := by decide +kernel
theorem dX11_laysLet_44 : decode cX11_laysLet 44 = .ok (.iload 7, 2) := by decide +kernel
theorem dX11_laysLet_46 : decode cX11_laysLet 46 = .ok (.invokevirtual 517, 3) := by decide +kernel
theorem dX11_laysLet_49 : decode cX11_laysLet 49 = .ok (.ifCond .ne 6, 3) := by decide +kernel
theorem dX11_laysLet_52 : decode cX11_laysLet 52 = .ok (.goto 25, 3) := by decide +kernel
theorem dX11_laysLet_55 : decode cX11_laysLet 55 = .ok (.iload 5, 2) := by decide +kernel
theorem dX11_laysLet_57 : decode cX11_laysLet 57 = .ok (.iload 4, 2) := by decide +kernel
theorem dX11_laysLet_59 : decode cX11_laysLet 59 = .ok (.if_icmp .ne 15, 3) := by decide +kernel
theorem dX11_laysLet_62 : decode cX11_laysLet 62 = .ok (.aload_n 0, 1) := by decide +kernel
theorem dX11_laysLet_63 : decode cX11_laysLet 63 = .ok (.bipush 100, 2) := by decide +kernel
theorem dX11_laysLet_65 : decode cX11_laysLet 65 = .ok (.iload 6, 2) := by decide +kernel
theorem dX11_laysLet_67 : decode cX11_laysLet 67 = .ok (.imul, 1) := by decide +kernel
theorem dX11_laysLet_68 : decode cX11_laysLet 68 = .ok (.iload 7, 2) := by decide +kernel
theorem dX11_laysLet_70 : decode cX11_laysLet 70 = .ok (.iadd, 1) := by decide +kernel
theorem dX11_laysLet_71 : decode cX11_laysLet 71 = .ok (.putfield 514, 3) := by decide +kernel
theorem dX11_laysLet_74 : decode cX11_laysLet 74 = .ok (.iinc 5 1, 3) := by decide +kernel
theorem dX11_laysLet_77 : decode cX11_laysLet 77 = .ok (.iinc 7 1, 3) := by decide +kernel
theorem dX11_laysLet_80 : decode cX11_laysLet 80 = .ok (.goto (-49), 3) := by decide +kernel
theorem dX11_laysLet_83 : decode cX11_laysLet 83 = .ok (.iinc 6 1, 3) := by decide +kernel
theorem dX11_laysLet_86 : decode cX11_laysLet 86 = .ok (.goto (-75), 3) := by decide +kernel
theorem dX11_laysLet_89 : decode cX11_laysLet 89 = .ok (.iload 5, 2) := by decide +kernel
theorem dX11_laysLet_91 : decode cX11_laysLet 91 = .ok (.ireturn, 1) := by decide +kernel
theorem dX11_letGoBy_0 : decode cX11_letGoBy 0 = .ok (.aload_n 0, 1) := by decide +kernel
theorem dX11_letGoBy_1 : decode cX11_letGoBy 1 = .ok (.iload_n 1, 1) := by decide +kernel
theorem dX11_letGoBy_2 : decode cX11_letGoBy 2 = .ok (.iload_n 2, 1) := by decide +kernel
theorem dX11_letGoBy_3 : decode cX11_letGoBy 3 = .ok (.iload_n 3, 1) := by decide +kernel
theorem dX11_letGoBy_4 : decode cX11_letGoBy 4 = .ok (.invokevirtual 521, 3) := by decide +kernel
theorem dX11_letGoBy_7 : decode cX11_letGoBy 7 = .ok (.ifCond .eq 7, 3) := by decide +kernel
