theorem dX11_allColumns_0 : decode cX11_allColumns 0 = .ok (.iconst 1, 1) := by decide +kernel
theorem dX11_allColumns_1 : decode cX11_allColumns 1 = .ok (.aload_n 0, 1) := by decide +kernel
theorem dX11_allColumns_10 : decode cX11_allColumns 10 = .ok (.ireturn, 1) := by decide +kernel
theorem dX11_allColumns_2 : decode cX11_allColumns 2 = .ok (.getfield 9, 3) := by decide +kernel
theorem dX11_allColumns_5 : decode cX11_allColumns 5 = .ok (.iconst 1, 1) := by decide +kernel
theorem dX11_allColumns_6 : decode cX11_allColumns 6 = .ok (.iaload, 1) := by decide +kernel
theorem dX11_allColumns_7 : decode cX11_allColumns 7 = .ok (.ishl, 1) := by decide +kernel
theorem dX11_allColumns_8 : decode cX11_allColumns 8 = .ok (.iconst 1, 1) := by decide +kernel
theorem dX11_allColumns_9 : decode cX11_allColumns 9 = .ok (.isub, 1) := by decide +kernel
theorem dX11_allThat_0 : decode cX11_allThat 0 = .ok (.iconst 0, 1) := by decide +kernel
theorem dX11_allThat_1 : decode cX11_allThat 1 = .ok (.istore_n 2, 1) := by decide +kernel
theorem dX11_allThat_12 : decode cX11_allThat 12 = .ok (.iload_n 2, 1) := by decide +kernel
theorem dX11_allThat_13 : decode cX11_allThat 13 = .ok (.aload_n 0, 1) := by decide +kernel
theorem dX11_allThat_14 : decode cX11_allThat 14 = .ok (.iload_n 3, 1) := by decide +kernel
theorem dX11_allThat_15 : decode cX11_allThat 15 = .ok (.iload_n 1, 1) := by decide +kernel
theorem dX11_allThat_16 : decode cX11_allThat 16 = .ok (.invokevirtual 283, 3) := by decide +kernel
theorem dX11_allThat_19 : decode cX11_allThat 19 = .ok (.ifCond .eq 7, 3) := by decide +kernel
theorem dX11_allThat_2 : decode cX11_allThat 2 = .ok (.iconst 0, 1) := by decide +kernel
theorem dX11_allThat_22 : decode cX11_allThat 22 = .ok (.iconst 1, 1) := by decide +kernel
theorem dX11_allThat_23 : decode cX11_allThat 23 = .ok (.goto 4, 3) := by decide +kernel
theorem dX11_allThat_26 : decode cX11_allThat 26 = .ok (.iconst 0, 1) := by decide +kernel
theorem dX11_allThat_27 : decode cX11_allThat 27 = .ok (.iadd, 1) := by decide +kernel
theorem dX11_allThat_28 : decode cX11_allThat 28 = .ok (.istore_n 2, 1) := by decide +kernel
theorem dX11_allThat_29 : decode cX11_allThat 29 = .ok (.iinc 3 1, 3) := by decide +kernel
theorem dX11_allThat_3 : decode cX11_allThat 3 = .ok (.istore_n 3, 1) := by decide +kernel
theorem dX11_allThat_32 : decode cX11_allThat 32 = .ok (.goto (-28), 3) := by decide +kernel
theorem dX11_allThat_35 : decode cX11_allThat 35 = .ok (.iload_n 2, 1) := by decide +kernel
theorem dX11_allThat_36 : decode cX11_allThat 36 = .ok (.ireturn, 1) := by decide +kernel
theorem dX11_allThat_4 : decode cX11_allThat 4 = .ok (.iload_n 3, 1) := by decide +kernel
theorem dX11_allThat_5 : decode cX11_allThat 5 = .ok (.aload_n 0, 1) := by decide +kernel
theorem dX11_allThat_6 : decode cX11_allThat 6 = .ok (.invokevirtual 280, 3) := by decide +kernel
theorem dX11_allThat_9 : decode cX11_allThat 9 = .ok (.if_icmp .ge 26, 3) := by decide +kernel
theorem dX11_at_0 : decode cX11_at 0 = .ok (.aload_n 0, 1) := by decide +kernel
theorem dX11_at_1 : decode cX11_at 1 = .ok (.iconst 0, 1) := by decide +kernel
theorem dX11_at_10 : decode cX11_at 10 = .ok (.invokevirtual 373, 3) := by decide +kernel
theorem dX11_at_13 : decode cX11_at 13 = .ok (.ifCond .ne 9, 3) := by decide +kernel
theorem dX11_at_16 : decode cX11_at 16 = .ok (.aload_n 0, 1) := by decide +kernel
theorem dX11_at_17 : decode cX11_at 17 = .ok (.iconst 1, 1) := by decide +kernel
theorem dX11_at_18 : decode cX11_at 18 = .ok (.invokevirtual 269, 3) := by decide +kernel
theorem dX11_at_2 : decode cX11_at 2 = .ok (.putfield 70, 3) := by decide +kernel
theorem dX11_at_21 : decode cX11_at 21 = .ok (.ireturn, 1) := by decide +kernel
theorem dX11_at_22 : decode cX11_at 22 = .ok (.iconst 0, 1) := by decide +kernel
theorem dX11_at_23 : decode cX11_at 23 = .ok (.istore_n 3, 1) := by decide +kernel
theorem dX11_at_24 : decode cX11_at 24 = .ok (.iload_n 3, 1) := by decide +kernel
theorem dX11_at_25 : decode cX11_at 25 = .ok (.aload_n 0, 1) := by decide +kernel
theorem dX11_at_26 : decode cX11_at 26 = .ok (.invokevirtual 280, 3) := by decide +kernel
theorem dX11_at_29 : decode cX11_at 29 = .ok (.if_icmp .ge 46, 3) := by decide +kernel
theorem dX11_at_32 : decode cX11_at 32 = .ok (.aload_n 0, 1) := by decide +kernel
theorem dX11_at_33 : decode cX11_at 33 = .ok (.iload_n 3, 1) := by decide +kernel
theorem dX11_at_34 : decode cX11_at 34 = .ok (.iconst 0, 1) := by decide +kernel
theorem dX11_at_35 : decode cX11_at 35 = .ok (.invokevirtual 283, 3) := by decide +kernel
theorem dX11_at_38 : decode cX11_at 38 = .ok (.ifCond .ne 31, 3) := by decide +kernel
theorem dX11_at_41 : decode cX11_at 41 = .ok (.aload_n 0, 1) := by decide +kernel
theorem dX11_at_42 : decode cX11_at 42 = .ok (.getfield 9, 3) := by decide +kernel
theorem dX11_at_45 : decode cX11_at 45 = .ok (.bipush 16, 2) := by decide +kernel
theorem dX11_at_47 : decode cX11_at 47 = .ok (.iload_n 3, 1) := by decide +kernel
theorem dX11_at_48 : decode cX11_at 48 = .ok (.iadd, 1) := by decide +kernel
theorem dX11_at_49 : decode cX11_at 49 = .ok (.iaload, 1) := by decide +kernel
theorem dX11_at_5 : decode cX11_at 5 = .ok (.aload_n 0, 1) := by decide +kernel
theorem dX11_at_50 : decode cX11_at 50 = .ok (.iload_n 1, 1) := by decide +kernel
theorem dX11_at_51 : decode cX11_at 51 = .ok (.if_icmp .ne 18, 3) := by decide +kernel
theorem dX11_at_54 : decode cX11_at 54 = .ok (.aload_n 0, 1) := by decide +kernel
theorem dX11_at_55 : decode cX11_at 55 = .ok (.getfield 9, 3) := by decide +kernel
theorem dX11_at_58 : decode cX11_at 58 = .ok (.bipush 24, 2) := by decide +kernel
theorem dX11_at_6 : decode cX11_at 6 = .ok (.iload_n 1, 1) := by decide +kernel
theorem dX11_at_60 : decode cX11_at 60 = .ok (.iload_n 3, 1) := by decide +kernel
theorem dX11_at_61 : decode cX11_at 61 = .ok (.iadd, 1) := by decide +kernel
theorem dX11_at_62 : decode cX11_at 62 = .ok (.iaload, 1) := by decide +kernel
theorem dX11_at_63 : decode cX11_at 63 = .ok (.iload_n 2, 1) := by decide +kernel
theorem dX11_at_64 : decode cX11_at 64 = .ok (.if_icmp .ne 5, 3) := by decide +kernel
theorem dX11_at_67 : decode cX11_at 67 = .ok (.iload_n 3, 1) := by decide +kernel
theorem dX11_at_68 : decode cX11_at 68 = .ok (.ireturn, 1) := by decide +kernel
theorem dX11_at_69 : decode cX11_at 69 = .ok (.iinc 3 1, 3) := by decide +kernel
theorem dX11_at_7 : decode cX11_at 7 = .ok (.i2l, 1) := by decide +kernel
theorem dX11_at_72 : decode cX11_at 72 = .ok (.goto (-48), 3) := by decide +kernel
theorem dX11_at_75 : decode cX11_at 75 = .ok (.iconst (-1), 1) := by decide +kernel
theorem dX11_at_76 : decode cX11_at 76 = .ok (.ireturn, 1) := by decide +kernel
theorem dX11_at_8 : decode cX11_at 8 = .ok (.iload_n 2, 1) := by decide +kernel
theorem dX11_at_9 : decode cX11_at 9 = .ok (.i2l, 1) := by decide +kernel
theorem dX11_beginsLaw_0 : decode cX11_beginsLaw 0 = .ok (.aload_n 0, 1) := by decide +kernel
theorem dX11_beginsLaw_1 : decode cX11_beginsLaw 1 = .ok (.iload_n 1, 1) := by decide +kernel
theorem dX11_beginsLaw_10 : decode cX11_beginsLaw 10 = .ok (.aload_n 0, 1) := by decide +kernel
theorem dX11_beginsLaw_11 : decode cX11_beginsLaw 11 = .ok (.getfield 13, 3) := by decide +kernel
theorem dX11_beginsLaw_14 : decode cX11_beginsLaw 14 = .ok (.iload_n 1, 1) := by decide +kernel
theorem dX11_beginsLaw_15 : decode cX11_beginsLaw 15 = .ok (.iconst 0, 1) := by decide +kernel
theorem dX11_beginsLaw_16 : decode cX11_beginsLaw 16 = .ok (.iastore, 1) := by decide +kernel
theorem dX11_beginsLaw_17 : decode cX11_beginsLaw 17 = .ok (.return_, 1) := by decide +kernel
theorem dX11_beginsLaw_2 : decode cX11_beginsLaw 2 = .ok (.putfield 141, 3) := by decide +kernel
theorem dX11_beginsLaw_5 : decode cX11_beginsLaw 5 = .ok (.aload_n 0, 1) := by decide +kernel
theorem dX11_beginsLaw_6 : decode cX11_beginsLaw 6 = .ok (.iload_n 2, 1) := by decide +kernel
theorem dX11_beginsLaw_7 : decode cX11_beginsLaw 7 = .ok (.putfield 138, 3) := by decide +kernel
theorem dX11_begins_0 : decode cX11_begins 0 = .ok (.aload_n 0, 1) := by decide +kernel
theorem dX11_begins_1 : decode cX11_begins 1 = .ok (.getfield 13, 3) := by decide +kernel
theorem dX11_begins_10 : decode cX11_begins 10 = .ok (.aload_n 0, 1) := by decide +kernel
theorem dX11_begins_11 : decode cX11_begins 11 = .ok (.iconst 4, 1) := by decide +kernel
theorem dX11_begins_12 : decode cX11_begins 12 = .ok (.invokevirtual 127, 3) := by decide +kernel
theorem dX11_begins_15 : decode cX11_begins 15 = .ok (.aload_n 0, 1) := by decide +kernel
theorem dX11_begins_16 : decode cX11_begins 16 = .ok (.getfield 105, 3) := by decide +kernel
theorem dX11_begins_19 : decode cX11_begins 19 = .ok (.ifCond .ne 7, 3) := by decide +kernel
theorem dX11_begins_22 : decode cX11_begins 22 = .ok (.aload_n 0, 1) := by decide +kernel
theorem dX11_begins_23 : decode cX11_begins 23 = .ok (.invokevirtual 124, 3) := by decide +kernel
theorem dX11_begins_26 : decode cX11_begins 26 = .ok (.aload_n 0, 1) := by decide +kernel
theorem dX11_begins_27 : decode cX11_begins 27 = .ok (.getfield 105, 3) := by decide +kernel
theorem dX11_begins_30 : decode cX11_begins 30 = .ok (.ifCond .ne 7, 3) := by decide +kernel
theorem dX11_begins_33 : decode cX11_begins 33 = .ok (.iconst 1, 1) := by decide +kernel
theorem dX11_begins_34 : decode cX11_begins 34 = .ok (.goto 4, 3) := by decide +kernel
theorem dX11_begins_37 : decode cX11_begins 37 = .ok (.iconst 0, 1) := by decide +kernel
theorem dX11_begins_38 : decode cX11_begins 38 = .ok (.ireturn, 1) := by decide +kernel
theorem dX11_begins_4 : decode cX11_begins 4 = .ok (.iload_n 1, 1) := by decide +kernel
theorem dX11_begins_5 : decode cX11_begins 5 = .ok (.iaload, 1) := by decide +kernel
theorem dX11_begins_6 : decode cX11_begins 6 = .ok (.iload_n 2, 1) := by decide +kernel
theorem dX11_begins_7 : decode cX11_begins 7 = .ok (.if_icmp .ne 8, 3) := by decide +kernel
theorem dX11_beside_0 : decode cX11_beside 0 = .ok (.iload_n 1, 1) := by decide +kernel
theorem dX11_beside_1 : decode cX11_beside 1 = .ok (.iload_n 1, 1) := by decide +kernel
theorem dX11_beside_10 : decode cX11_beside 10 = .ok (.invokevirtual 490, 3) := by decide +kernel
theorem dX11_beside_13 : decode cX11_beside 13 = .ok (.iand, 1) := by decide +kernel
theorem dX11_beside_14 : decode cX11_beside 14 = .ok (.ireturn, 1) := by decide +kernel
theorem dX11_beside_2 : decode cX11_beside 2 = .ok (.iconst 1, 1) := by decide +kernel
theorem dX11_beside_3 : decode cX11_beside 3 = .ok (.ishl, 1) := by decide +kernel
theorem dX11_beside_4 : decode cX11_beside 4 = .ok (.ior, 1) := by decide +kernel
theorem dX11_beside_5 : decode cX11_beside 5 = .ok (.iload_n 1, 1) := by decide +kernel
theorem dX11_beside_6 : decode cX11_beside 6 = .ok (.iconst 1, 1) := by decide +kernel
theorem dX11_beside_7 : decode cX11_beside 7 = .ok (.ishr, 1) := by decide +kernel
theorem dX11_beside_8 : decode cX11_beside 8 = .ok (.ior, 1) := by decide +kernel
theorem dX11_beside_9 : decode cX11_beside 9 = .ok (.aload_n 0, 1) := by decide +kernel
theorem dX11_blames_0 : decode cX11_blames 0 = .ok (.aload_n 0, 1) := by decide +kernel
theorem dX11_blames_1 : decode cX11_blames 1 = .ok (.getfield 105, 3) := by decide +kernel
theorem dX11_blames_10 : decode cX11_blames 10 = .ok (.getfield 85, 3) := by decide +kernel
theorem dX11_blames_13 : decode cX11_blames 13 = .ok (.iconst 3, 1) := by decide +kernel
theorem dX11_blames_14 : decode cX11_blames 14 = .ok (.if_icmp .ne 7, 3) := by decide +kernel
theorem dX11_blames_17 : decode cX11_blames 17 = .ok (.iconst 1, 1) := by decide +kernel
theorem dX11_blames_18 : decode cX11_blames 18 = .ok (.goto 4, 3) := by decide +kernel
theorem dX11_blames_21 : decode cX11_blames 21 = .ok (.iload_n 1, 1) := by decide +kernel
theorem dX11_blames_22 : decode cX11_blames 22 = .ok (.putfield 105, 3) := by decide +kernel
theorem dX11_blames_25 : decode cX11_blames 25 = .ok (.aload_n 0, 1) := by decide +kernel
theorem dX11_blames_26 : decode cX11_blames 26 = .ok (.aload_n 0, 1) := by decide +kernel
theorem dX11_blames_27 : decode cX11_blames 27 = .ok (.getfield 82, 3) := by decide +kernel
theorem dX11_blames_30 : decode cX11_blames 30 = .ok (.putfield 108, 3) := by decide +kernel
theorem dX11_blames_33 : decode cX11_blames 33 = .ok (.return_, 1) := by decide +kernel
theorem dX11_blames_4 : decode cX11_blames 4 = .ok (.ifCond .eq 4, 3) := by decide +kernel
theorem dX11_blames_7 : decode cX11_blames 7 = .ok (.return_, 1) := by decide +kernel
theorem dX11_blames_8 : decode cX11_blames 8 = .ok (.aload_n 0, 1) := by decide +kernel
theorem dX11_blames_9 : decode cX11_blames 9 = .ok (.aload_n 0, 1) := by decide +kernel
theorem dX11_bound_0 : decode cX11_bound 0 = .ok (.ldc2_w 290, 3) := by decide +kernel
theorem dX11_bound_10 : decode cX11_bound 10 = .ok (.invokestatic 300, 3) := by decide +kernel
theorem dX11_bound_13 : decode cX11_bound 13 = .ok (.l2i, 1) := by decide +kernel
theorem dX11_bound_14 : decode cX11_bound 14 = .ok (.ireturn, 1) := by decide +kernel
theorem dX11_bound_3 : decode cX11_bound 3 = .ok (.ldc2_w 292, 3) := by decide +kernel
theorem dX11_bound_6 : decode cX11_bound 6 = .ok (.lload_n 0, 1) := by decide +kernel
theorem dX11_bound_7 : decode cX11_bound 7 = .ok (.invokestatic 294, 3) := by decide +kernel
theorem dX11_count_0 : decode cX11_count 0 = .ok (.aload_n 0, 1) := by decide +kernel
theorem dX11_count_1 : decode cX11_count 1 = .ok (.iconst 0, 1) := by decide +kernel
theorem dX11_count_100 : decode cX11_count 100 = .ok (.aload_n 0, 1) := by decide +kernel
theorem dX11_count_101 : decode cX11_count 101 = .ok (.iconst 1, 1) := by decide +kernel
theorem dX11_count_102 : decode cX11_count 102 = .ok (.invokevirtual 531, 3) := by decide +kernel
theorem dX11_count_105 : decode cX11_count 105 = .ok (.ireturn, 1) := by decide +kernel
theorem dX11_count_106 : decode cX11_count 106 = .ok (.aload_n 0, 1) := by decide +kernel
theorem dX11_count_107 : decode cX11_count 107 = .ok (.invokevirtual 434, 3) := by decide +kernel
theorem dX11_count_110 : decode cX11_count 110 = .ok (.ireturn, 1) := by decide +kernel
theorem dX11_count_111 : decode cX11_count 111 = .ok (.aload_n 0, 1) := by decide +kernel
theorem dX11_count_112 : decode cX11_count 112 = .ok (.getfield 9, 3) := by decide +kernel
theorem dX11_count_115 : decode cX11_count 115 = .ok (.iconst 4, 1) := by decide +kernel
theorem dX11_count_116 : decode cX11_count 116 = .ok (.iaload, 1) := by decide +kernel
theorem dX11_count_117 : decode cX11_count 117 = .ok (.ireturn, 1) := by decide +kernel
theorem dX11_count_118 : decode cX11_count 118 = .ok (.aload_n 0, 1) := by decide +kernel
theorem dX11_count_119 : decode cX11_count 119 = .ok (.getfield 9, 3) := by decide +kernel
theorem dX11_count_122 : decode cX11_count 122 = .ok (.bipush 40, 2) := by decide +kernel
theorem dX11_count_124 : decode cX11_count 124 = .ok (.iaload, 1) := by decide +kernel
theorem dX11_count_125 : decode cX11_count 125 = .ok (.ireturn, 1) := by decide +kernel
theorem dX11_count_126 : decode cX11_count 126 = .ok (.aload_n 0, 1) := by decide +kernel
theorem dX11_count_127 : decode cX11_count 127 = .ok (.getfield 9, 3) := by decide +kernel
theorem dX11_count_130 : decode cX11_count 130 = .ok (.bipush 7, 2) := by decide +kernel
theorem dX11_count_132 : decode cX11_count 132 = .ok (.iaload, 1) := by decide +kernel
theorem dX11_count_133 : decode cX11_count 133 = .ok (.ireturn, 1) := by decide +kernel
theorem dX11_count_134 : decode cX11_count 134 = .ok (.aload_n 0, 1) := by decide +kernel
theorem dX11_count_135 : decode cX11_count 135 = .ok (.getfield 73, 3) := by decide +kernel
theorem dX11_count_138 : decode cX11_count 138 = .ok (.ireturn, 1) := by decide +kernel
theorem dX11_count_139 : decode cX11_count 139 = .ok (.aload_n 0, 1) := by decide +kernel
theorem dX11_count_140 : decode cX11_count 140 = .ok (.invokevirtual 437, 3) := by decide +kernel
theorem dX11_count_143 : decode cX11_count 143 = .ok (.ireturn, 1) := by decide +kernel
theorem dX11_count_144 : decode cX11_count 144 = .ok (.iconst (-1), 1) := by decide +kernel
theorem dX11_count_145 : decode cX11_count 145 = .ok (.ireturn, 1) := by decide +kernel
theorem dX11_count_2 : decode cX11_count 2 = .ok (.putfield 70, 3) := by decide +kernel
theorem dX11_count_5 : decode cX11_count 5 = .ok (.iload_n 1, 1) := by decide +kernel
theorem dX11_count_6 : decode cX11_count 6 = .ok (.tableswitch 138 0 11 #[62, 69, 76, 83, 88, 94, 100, 105, 112, 120, 128, 133], 62) := by decide +kernel
theorem dX11_count_68 : decode cX11_count 68 = .ok (.aload_n 0, 1) := by decide +kernel
theorem dX11_count_69 : decode cX11_count 69 = .ok (.getfield 9, 3) := by decide +kernel
theorem dX11_count_72 : decode cX11_count 72 = .ok (.iconst 0, 1) := by decide +kernel
theorem dX11_count_73 : decode cX11_count 73 = .ok (.iaload, 1) := by decide +kernel
theorem dX11_count_74 : decode cX11_count 74 = .ok (.ireturn, 1) := by decide +kernel
theorem dX11_count_75 : decode cX11_count 75 = .ok (.aload_n 0, 1) := by decide +kernel
theorem dX11_count_76 : decode cX11_count 76 = .ok (.getfield 9, 3) := by decide +kernel
theorem dX11_count_79 : decode cX11_count 79 = .ok (.iconst 1, 1) := by decide +kernel
theorem dX11_count_80 : decode cX11_count 80 = .ok (.iaload, 1) := by decide +kernel
theorem dX11_count_81 : decode cX11_count 81 = .ok (.ireturn, 1) := by decide +kernel
theorem dX11_count_82 : decode cX11_count 82 = .ok (.aload_n 0, 1) := by decide +kernel
theorem dX11_count_83 : decode cX11_count 83 = .ok (.getfield 9, 3) := by decide +kernel
theorem dX11_count_86 : decode cX11_count 86 = .ok (.iconst 2, 1) := by decide +kernel
theorem dX11_count_87 : decode cX11_count 87 = .ok (.iaload, 1) := by decide +kernel
theorem dX11_count_88 : decode cX11_count 88 = .ok (.ireturn, 1) := by decide +kernel
theorem dX11_count_89 : decode cX11_count 89 = .ok (.aload_n 0, 1) := by decide +kernel
theorem dX11_count_90 : decode cX11_count 90 = .ok (.invokevirtual 280, 3) := by decide +kernel
theorem dX11_count_93 : decode cX11_count 93 = .ok (.ireturn, 1) := by decide +kernel
theorem dX11_count_94 : decode cX11_count 94 = .ok (.aload_n 0, 1) := by decide +kernel
theorem dX11_count_95 : decode cX11_count 95 = .ok (.iconst 0, 1) := by decide +kernel
theorem dX11_count_96 : decode cX11_count 96 = .ok (.invokevirtual 531, 3) := by decide +kernel
theorem dX11_count_99 : decode cX11_count 99 = .ok (.ireturn, 1) := by decide +kernel
theorem dX11_countsOn_0 : decode cX11_countsOn 0 = .ok (.iconst 0, 1) := by decide +kernel
theorem dX11_countsOn_1 : decode cX11_countsOn 1 = .ok (.istore_n 2, 1) := by decide +kernel
theorem dX11_countsOn_100 : decode cX11_countsOn 100 = .ok (.lconst 0, 1) := by decide +kernel
theorem dX11_countsOn_101 : decode cX11_countsOn 101 = .ok (.lastore, 1) := by decide +kernel
theorem dX11_countsOn_102 : decode cX11_countsOn 102 = .ok (.iinc 2 1, 3) := by decide +kernel
theorem dX11_countsOn_105 : decode cX11_countsOn 105 = .ok (.goto (-42), 3) := by decide +kernel
theorem dX11_countsOn_108 : decode cX11_countsOn 108 = .ok (.return_, 1) := by decide +kernel
theorem dX11_countsOn_12 : decode cX11_countsOn 12 = .ok (.iload_n 2, 1) := by decide +kernel
theorem dX11_countsOn_13 : decode cX11_countsOn 13 = .ok (.lconst 0, 1) := by decide +kernel
theorem dX11_countsOn_14 : decode cX11_countsOn 14 = .ok (.lastore, 1) := by decide +kernel
theorem dX11_countsOn_15 : decode cX11_countsOn 15 = .ok (.iconst 0, 1) := by decide +kernel
theorem dX11_countsOn_16 : decode cX11_countsOn 16 = .ok (.iload_n 2, 1) := by decide +kernel
theorem dX11_countsOn_17 : decode cX11_countsOn 17 = .ok (.iconst 1, 1) := by decide +kernel
theorem dX11_countsOn_18 : decode cX11_countsOn 18 = .ok (.isub, 1) := by decide +kernel
theorem dX11_countsOn_19 : decode cX11_countsOn 19 = .ok (.invokestatic 318, 3) := by decide +kernel
theorem dX11_countsOn_2 : decode cX11_countsOn 2 = .ok (.iload_n 2, 1) := by decide +kernel
theorem dX11_countsOn_22 : decode cX11_countsOn 22 = .ok (.istore_n 3, 1) := by decide +kernel
theorem dX11_countsOn_23 : decode cX11_countsOn 23 = .ok (.iload_n 3, 1) := by decide +kernel
theorem dX11_countsOn_24 : decode cX11_countsOn 24 = .ok (.iconst 5, 1) := by decide +kernel
theorem dX11_countsOn_25 : decode cX11_countsOn 25 = .ok (.iload_n 2, 1) := by decide +kernel
theorem dX11_countsOn_26 : decode cX11_countsOn 26 = .ok (.iconst 1, 1) := by decide +kernel
theorem dX11_countsOn_27 : decode cX11_countsOn 27 = .ok (.iadd, 1) := by decide +kernel
theorem dX11_countsOn_28 : decode cX11_countsOn 28 = .ok (.invokestatic 316, 3) := by decide +kernel
theorem dX11_countsOn_3 : decode cX11_countsOn 3 = .ok (.bipush 6, 2) := by decide +kernel
theorem dX11_countsOn_31 : decode cX11_countsOn 31 = .ok (.if_icmp .gt 24, 3) := by decide +kernel
theorem dX11_countsOn_34 : decode cX11_countsOn 34 = .ok (.aload_n 0, 1) := by decide +kernel
theorem dX11_countsOn_35 : decode cX11_countsOn 35 = .ok (.getfield 58, 3) := by decide +kernel
theorem dX11_countsOn_38 : decode cX11_countsOn 38 = .ok (.iload_n 2, 1) := by decide +kernel
theorem dX11_countsOn_39 : decode cX11_countsOn 39 = .ok (.dup2, 1) := by decide +kernel
theorem dX11_countsOn_40 : decode cX11_countsOn 40 = .ok (.laload, 1) := by decide +kernel
theorem dX11_countsOn_41 : decode cX11_countsOn 41 = .ok (.aload_n 0, 1) := by decide +kernel
theorem dX11_countsOn_42 : decode cX11_countsOn 42 = .ok (.getfield 54, 3) := by decide +kernel
theorem dX11_countsOn_45 : decode cX11_countsOn 45 = .ok (.iload_n 3, 1) := by decide +kernel
theorem dX11_countsOn_46 : decode cX11_countsOn 46 = .ok (.laload, 1) := by decide +kernel
theorem dX11_countsOn_47 : decode cX11_countsOn 47 = .ok (.ladd, 1) := by decide +kernel
theorem dX11_countsOn_48 : decode cX11_countsOn 48 = .ok (.lastore, 1) := by decide +kernel
theorem dX11_countsOn_49 : decode cX11_countsOn 49 = .ok (.iinc 3 1, 3) := by decide +kernel
theorem dX11_countsOn_5 : decode cX11_countsOn 5 = .ok (.if_icmp .ge 56, 3) := by decide +kernel
theorem dX11_countsOn_52 : decode cX11_countsOn 52 = .ok (.goto (-29), 3) := by decide +kernel
theorem dX11_countsOn_55 : decode cX11_countsOn 55 = .ok (.iinc 2 1, 3) := by decide +kernel
theorem dX11_countsOn_58 : decode cX11_countsOn 58 = .ok (.goto (-56), 3) := by decide +kernel
theorem dX11_countsOn_61 : decode cX11_countsOn 61 = .ok (.iconst 0, 1) := by decide +kernel
theorem dX11_countsOn_62 : decode cX11_countsOn 62 = .ok (.istore_n 2, 1) := by decide +kernel
theorem dX11_countsOn_63 : decode cX11_countsOn 63 = .ok (.iload_n 2, 1) := by decide +kernel
theorem dX11_countsOn_64 : decode cX11_countsOn 64 = .ok (.bipush 6, 2) := by decide +kernel
theorem dX11_countsOn_66 : decode cX11_countsOn 66 = .ok (.if_icmp .ge 42, 3) := by decide +kernel
theorem dX11_countsOn_69 : decode cX11_countsOn 69 = .ok (.aload_n 0, 1) := by decide +kernel
theorem dX11_countsOn_70 : decode cX11_countsOn 70 = .ok (.getfield 54, 3) := by decide +kernel
theorem dX11_countsOn_73 : decode cX11_countsOn 73 = .ok (.iload_n 2, 1) := by decide +kernel
theorem dX11_countsOn_74 : decode cX11_countsOn 74 = .ok (.aload_n 0, 1) := by decide +kernel
theorem dX11_countsOn_75 : decode cX11_countsOn 75 = .ok (.iload_n 2, 1) := by decide +kernel
theorem dX11_countsOn_76 : decode cX11_countsOn 76 = .ok (.i2l, 1) := by decide +kernel
theorem dX11_countsOn_77 : decode cX11_countsOn 77 = .ok (.invokevirtual 286, 3) := by decide +kernel
theorem dX11_countsOn_8 : decode cX11_countsOn 8 = .ok (.aload_n 0, 1) := by decide +kernel
theorem dX11_countsOn_80 : decode cX11_countsOn 80 = .ok (.ifCond .eq 20, 3) := by decide +kernel
theorem dX11_countsOn_83 : decode cX11_countsOn 83 = .ok (.iload_n 1, 1) := by decide +kernel
theorem dX11_countsOn_84 : decode cX11_countsOn 84 = .ok (.iload_n 2, 1) := by decide +kernel
theorem dX11_countsOn_85 : decode cX11_countsOn 85 = .ok (.invokestatic 323, 3) := by decide +kernel
theorem dX11_countsOn_88 : decode cX11_countsOn 88 = .ok (.ifCond .ne 12, 3) := by decide +kernel
theorem dX11_countsOn_9 : decode cX11_countsOn 9 = .ok (.getfield 58, 3) := by decide +kernel
theorem dX11_countsOn_91 : decode cX11_countsOn 91 = .ok (.aload_n 0, 1) := by decide +kernel
theorem dX11_countsOn_92 : decode cX11_countsOn 92 = .ok (.getfield 58, 3) := by decide +kernel
theorem dX11_countsOn_95 : decode cX11_countsOn 95 = .ok (.iload_n 2, 1) := by decide +kernel
theorem dX11_countsOn_96 : decode cX11_countsOn 96 = .ok (.laload, 1) := by decide +kernel
theorem dX11_countsOn_97 : decode cX11_countsOn 97 = .ok (.goto 4, 3) := by decide +kernel
theorem dX11_cut_0 : decode cX11_cut 0 = .ok (.bipush 64, 2) := by decide +kernel
theorem dX11_cut_10 : decode cX11_cut 10 = .ok (.ishl, 1) := by decide +kernel
theorem dX11_cut_11 : decode cX11_cut 11 = .ok (.isub, 1) := by decide +kernel
theorem dX11_cut_12 : decode cX11_cut 12 = .ok (.istore 5, 2) := by decide +kernel
theorem dX11_cut_14 : decode cX11_cut 14 = .ok (.aload_n 0, 1) := by decide +kernel
theorem dX11_cut_15 : decode cX11_cut 15 = .ok (.getfield 67, 3) := by decide +kernel
theorem dX11_cut_18 : decode cX11_cut 18 = .ok (.bipush 30, 2) := by decide +kernel
theorem dX11_cut_2 : decode cX11_cut 2 = .ok (.bipush 8, 2) := by decide +kernel
theorem dX11_cut_20 : decode cX11_cut 20 = .ok (.iload_n 1, 1) := by decide +kernel
theorem dX11_cut_21 : decode cX11_cut 21 = .ok (.imul, 1) := by decide +kernel
theorem dX11_cut_22 : decode cX11_cut 22 = .ok (.iload_n 2, 1) := by decide +kernel
theorem dX11_cut_23 : decode cX11_cut 23 = .ok (.iadd, 1) := by decide +kernel
theorem dX11_cut_24 : decode cX11_cut 24 = .ok (.lload_n 3, 1) := by decide +kernel
theorem dX11_cut_25 : decode cX11_cut 25 = .ok (.iload 5, 2) := by decide +kernel
theorem dX11_cut_27 : decode cX11_cut 27 = .ok (.lshl, 1) := by decide +kernel
theorem dX11_cut_28 : decode cX11_cut 28 = .ok (.iload 5, 2) := by decide +kernel
theorem dX11_cut_30 : decode cX11_cut 30 = .ok (.lshr, 1) := by decide +kernel
theorem dX11_cut_31 : decode cX11_cut 31 = .ok (.lastore, 1) := by decide +kernel
theorem dX11_cut_32 : decode cX11_cut 32 = .ok (.aload_n 0, 1) := by decide +kernel
theorem dX11_cut_33 : decode cX11_cut 33 = .ok (.getfield 67, 3) := by decide +kernel
theorem dX11_cut_36 : decode cX11_cut 36 = .ok (.bipush 30, 2) := by decide +kernel
theorem dX11_cut_38 : decode cX11_cut 38 = .ok (.iload_n 1, 1) := by decide +kernel
theorem dX11_cut_39 : decode cX11_cut 39 = .ok (.imul, 1) := by decide +kernel
theorem dX11_cut_4 : decode cX11_cut 4 = .ok (.aload_n 0, 1) := by decide +kernel
theorem dX11_cut_40 : decode cX11_cut 40 = .ok (.iload_n 2, 1) := by decide +kernel
theorem dX11_cut_41 : decode cX11_cut 41 = .ok (.iadd, 1) := by decide +kernel
theorem dX11_cut_42 : decode cX11_cut 42 = .ok (.laload, 1) := by decide +kernel
theorem dX11_cut_43 : decode cX11_cut 43 = .ok (.lreturn, 1) := by decide +kernel
theorem dX11_cut_5 : decode cX11_cut 5 = .ok (.getfield 61, 3) := by decide +kernel
theorem dX11_cut_8 : decode cX11_cut 8 = .ok (.iload_n 1, 1) := by decide +kernel
theorem dX11_cut_9 : decode cX11_cut 9 = .ok (.iaload, 1) := by decide +kernel
theorem dX11_done_0 : decode cX11_done 0 = .ok (.iload_n 0, 1) := by decide +kernel
theorem dX11_done_1 : decode cX11_done 1 = .ok (.tableswitch 114 10 16 #[43, 50, 57, 64, 76, 88, 100], 43) := by decide +kernel
theorem dX11_done_100 : decode cX11_done 100 = .ok (.ireturn, 1) := by decide +kernel
theorem dX11_done_101 : decode cX11_done 101 = .ok (.lload_n 1, 1) := by decide +kernel
theorem dX11_done_102 : decode cX11_done 102 = .ok (.lload_n 3, 1) := by decide +kernel
theorem dX11_done_103 : decode cX11_done 103 = .ok (.ladd, 1) := by decide +kernel
theorem dX11_done_104 : decode cX11_done 104 = .ok (.lconst 1, 1) := by decide +kernel
theorem dX11_done_105 : decode cX11_done 105 = .ok (.lcmp, 1) := by decide +kernel
theorem dX11_done_106 : decode cX11_done 106 = .ok (.ifCond .le 7, 3) := by decide +kernel
theorem dX11_done_109 : decode cX11_done 109 = .ok (.iconst 1, 1) := by decide +kernel
theorem dX11_done_110 : decode cX11_done 110 = .ok (.goto 4, 3) := by decide +kernel
theorem dX11_done_113 : decode cX11_done 113 = .ok (.iconst 0, 1) := by decide +kernel
theorem dX11_done_114 : decode cX11_done 114 = .ok (.ireturn, 1) := by decide +kernel
theorem dX11_done_115 : decode cX11_done 115 = .ok (.lload_n 1, 1) := by decide +kernel
theorem dX11_done_116 : decode cX11_done 116 = .ok (.lload_n 3, 1) := by decide +kernel
theorem dX11_done_117 : decode cX11_done 117 = .ok (.ladd, 1) := by decide +kernel
theorem dX11_done_118 : decode cX11_done 118 = .ok (.lconst 0, 1) := by decide +kernel
theorem dX11_done_119 : decode cX11_done 119 = .ok (.lcmp, 1) := by decide +kernel
theorem dX11_done_120 : decode cX11_done 120 = .ok (.ifCond .le 7, 3) := by decide +kernel
theorem dX11_done_123 : decode cX11_done 123 = .ok (.iconst 1, 1) := by decide +kernel
theorem dX11_done_124 : decode cX11_done 124 = .ok (.goto 4, 3) := by decide +kernel
theorem dX11_done_127 : decode cX11_done 127 = .ok (.iconst 0, 1) := by decide +kernel
theorem dX11_done_128 : decode cX11_done 128 = .ok (.ireturn, 1) := by decide +kernel
theorem dX11_done_44 : decode cX11_done 44 = .ok (.lload_n 1, 1) := by decide +kernel
theorem dX11_done_45 : decode cX11_done 45 = .ok (.lload_n 3, 1) := by decide +kernel
theorem dX11_done_46 : decode cX11_done 46 = .ok (.ladd, 1) := by decide +kernel
theorem dX11_done_47 : decode cX11_done 47 = .ok (.invokestatic 303, 3) := by decide +kernel
theorem dX11_done_50 : decode cX11_done 50 = .ok (.ireturn, 1) := by decide +kernel
theorem dX11_done_51 : decode cX11_done 51 = .ok (.lload_n 1, 1) := by decide +kernel
theorem dX11_done_52 : decode cX11_done 52 = .ok (.lload_n 3, 1) := by decide +kernel
theorem dX11_done_53 : decode cX11_done 53 = .ok (.lsub, 1) := by decide +kernel
theorem dX11_done_54 : decode cX11_done 54 = .ok (.invokestatic 303, 3) := by decide +kernel
theorem dX11_done_57 : decode cX11_done 57 = .ok (.ireturn, 1) := by decide +kernel
theorem dX11_done_58 : decode cX11_done 58 = .ok (.lload_n 1, 1) := by decide +kernel
theorem dX11_done_59 : decode cX11_done 59 = .ok (.lload_n 3, 1) := by decide +kernel
theorem dX11_done_60 : decode cX11_done 60 = .ok (.lmul, 1) := by decide +kernel
theorem dX11_done_61 : decode cX11_done 61 = .ok (.invokestatic 303, 3) := by decide +kernel
theorem dX11_done_64 : decode cX11_done 64 = .ok (.ireturn, 1) := by decide +kernel
theorem dX11_done_65 : decode cX11_done 65 = .ok (.lload_n 1, 1) := by decide +kernel
theorem dX11_done_66 : decode cX11_done 66 = .ok (.lload_n 3, 1) := by decide +kernel
theorem dX11_done_67 : decode cX11_done 67 = .ok (.lcmp, 1) := by decide +kernel
theorem dX11_done_68 : decode cX11_done 68 = .ok (.ifCond .ne 7, 3) := by decide +kernel
theorem dX11_done_71 : decode cX11_done 71 = .ok (.iconst 1, 1) := by decide +kernel
theorem dX11_done_72 : decode cX11_done 72 = .ok (.goto 4, 3) := by decide +kernel
theorem dX11_done_75 : decode cX11_done 75 = .ok (.iconst 0, 1) := by decide +kernel
theorem dX11_done_76 : decode cX11_done 76 = .ok (.ireturn, 1) := by decide +kernel
theorem dX11_done_77 : decode cX11_done 77 = .ok (.lload_n 1, 1) := by decide +kernel
theorem dX11_done_78 : decode cX11_done 78 = .ok (.lload_n 3, 1) := by decide +kernel
theorem dX11_done_79 : decode cX11_done 79 = .ok (.lcmp, 1) := by decide +kernel
theorem dX11_done_80 : decode cX11_done 80 = .ok (.ifCond .ge 7, 3) := by decide +kernel
theorem dX11_done_83 : decode cX11_done 83 = .ok (.iconst 1, 1) := by decide +kernel
theorem dX11_done_84 : decode cX11_done 84 = .ok (.goto 4, 3) := by decide +kernel
theorem dX11_done_87 : decode cX11_done 87 = .ok (.iconst 0, 1) := by decide +kernel
theorem dX11_done_88 : decode cX11_done 88 = .ok (.ireturn, 1) := by decide +kernel
theorem dX11_done_89 : decode cX11_done 89 = .ok (.lload_n 1, 1) := by decide +kernel
theorem dX11_done_90 : decode cX11_done 90 = .ok (.lload_n 3, 1) := by decide +kernel
theorem dX11_done_91 : decode cX11_done 91 = .ok (.lcmp, 1) := by decide +kernel
theorem dX11_done_92 : decode cX11_done 92 = .ok (.ifCond .le 7, 3) := by decide +kernel
theorem dX11_done_95 : decode cX11_done 95 = .ok (.iconst 1, 1) := by decide +kernel
theorem dX11_done_96 : decode cX11_done 96 = .ok (.goto 4, 3) := by decide +kernel
theorem dX11_done_99 : decode cX11_done 99 = .ok (.iconst 0, 1) := by decide +kernel
theorem dX11_draw_0 : decode cX11_draw 0 = .ok (.aload_n 0, 1) := by decide +kernel
theorem dX11_draw_1 : decode cX11_draw 1 = .ok (.ldc_w 443, 3) := by decide +kernel
theorem dX11_draw_12 : decode cX11_draw 12 = .ok (.iadd, 1) := by decide +kernel
theorem dX11_draw_13 : decode cX11_draw 13 = .ok (.putfield 444, 3) := by decide +kernel
theorem dX11_draw_16 : decode cX11_draw 16 = .ok (.aload_n 0, 1) := by decide +kernel
theorem dX11_draw_17 : decode cX11_draw 17 = .ok (.getfield 444, 3) := by decide +kernel
theorem dX11_draw_20 : decode cX11_draw 20 = .ok (.bipush 16, 2) := by decide +kernel
theorem dX11_draw_22 : decode cX11_draw 22 = .ok (.iushr, 1) := by decide +kernel
theorem dX11_draw_23 : decode cX11_draw 23 = .ok (.iload_n 1, 1) := by decide +kernel
theorem dX11_draw_24 : decode cX11_draw 24 = .ok (.irem, 1) := by decide +kernel
theorem dX11_draw_25 : decode cX11_draw 25 = .ok (.ireturn, 1) := by decide +kernel
theorem dX11_draw_4 : decode cX11_draw 4 = .ok (.aload_n 0, 1) := by decide +kernel
theorem dX11_draw_5 : decode cX11_draw 5 = .ok (.getfield 444, 3) := by decide +kernel
theorem dX11_draw_8 : decode cX11_draw 8 = .ok (.imul, 1) := by decide +kernel
theorem dX11_draw_9 : decode cX11_draw 9 = .ok (.sipush 12345, 3) := by decide +kernel
theorem dX11_fails_0 : decode cX11_fails 0 = .ok (.aload_n 0, 1) := by decide +kernel
theorem dX11_fails_1 : decode cX11_fails 1 = .ok (.iload_n 1, 1) := by decide +kernel
theorem dX11_fails_2 : decode cX11_fails 2 = .ok (.putfield 70, 3) := by decide +kernel
theorem dX11_fails_5 : decode cX11_fails 5 = .ok (.iconst 0, 1) := by decide +kernel
theorem dX11_fails_6 : decode cX11_fails 6 = .ok (.ireturn, 1) := by decide +kernel
theorem dX11_fault_0 : decode cX11_fault 0 = .ok (.aload_n 0, 1) := by decide +kernel
theorem dX11_fault_1 : decode cX11_fault 1 = .ok (.iconst 0, 1) := by decide +kernel
theorem dX11_fault_10 : decode cX11_fault 10 = .ok (.getfield 277, 3) := by decide +kernel
theorem dX11_fault_13 : decode cX11_fault 13 = .ok (.goto 16, 3) := by decide +kernel
theorem dX11_fault_16 : decode cX11_fault 16 = .ok (.iload_n 1, 1) := by decide +kernel
theorem dX11_fault_17 : decode cX11_fault 17 = .ok (.iconst 1, 1) := by decide +kernel
theorem dX11_fault_18 : decode cX11_fault 18 = .ok (.if_icmp .ne 10, 3) := by decide +kernel
theorem dX11_fault_2 : decode cX11_fault 2 = .ok (.putfield 70, 3) := by decide +kernel
theorem dX11_fault_21 : decode cX11_fault 21 = .ok (.aload_n 0, 1) := by decide +kernel
theorem dX11_fault_22 : decode cX11_fault 22 = .ok (.getfield 26, 3) := by decide +kernel
theorem dX11_fault_25 : decode cX11_fault 25 = .ok (.goto 4, 3) := by decide +kernel
theorem dX11_fault_28 : decode cX11_fault 28 = .ok (.iconst (-1), 1) := by decide +kernel
theorem dX11_fault_29 : decode cX11_fault 29 = .ok (.ireturn, 1) := by decide +kernel
theorem dX11_fault_5 : decode cX11_fault 5 = .ok (.iload_n 1, 1) := by decide +kernel
theorem dX11_fault_6 : decode cX11_fault 6 = .ok (.ifCond .ne 10, 3) := by decide +kernel
theorem dX11_fault_9 : decode cX11_fault 9 = .ok (.aload_n 0, 1) := by decide +kernel
theorem dX11_feed_0 : decode cX11_feed 0 = .ok (.aload_n 0, 1) := by decide +kernel
theorem dX11_feed_1 : decode cX11_feed 1 = .ok (.iconst 0, 1) := by decide +kernel
theorem dX11_feed_102 : decode cX11_feed 102 = .ok (.iand, 1) := by decide +kernel
theorem dX11_feed_103 : decode cX11_feed 103 = .ok (.iastore, 1) := by decide +kernel
theorem dX11_feed_104 : decode cX11_feed 104 = .ok (.aload_n 0, 1) := by decide +kernel
theorem dX11_feed_105 : decode cX11_feed 105 = .ok (.dup, 1) := by decide +kernel
theorem dX11_feed_106 : decode cX11_feed 106 = .ok (.getfield 73, 3) := by decide +kernel
theorem dX11_feed_109 : decode cX11_feed 109 = .ok (.iconst 1, 1) := by decide +kernel
theorem dX11_feed_11 : decode cX11_feed 11 = .ok (.iadd, 1) := by decide +kernel
theorem dX11_feed_110 : decode cX11_feed 110 = .ok (.iadd, 1) := by decide +kernel
theorem dX11_feed_111 : decode cX11_feed 111 = .ok (.putfield 73, 3) := by decide +kernel
theorem dX11_feed_114 : decode cX11_feed 114 = .ok (.iinc 6 1, 3) := by decide +kernel
theorem dX11_feed_117 : decode cX11_feed 117 = .ok (.goto (-94), 3) := by decide +kernel
theorem dX11_feed_12 : decode cX11_feed 12 = .ok (.sipush 900, 3) := by decide +kernel
theorem dX11_feed_120 : decode cX11_feed 120 = .ok (.aload_n 0, 1) := by decide +kernel
theorem dX11_feed_121 : decode cX11_feed 121 = .ok (.getfield 73, 3) := by decide +kernel
theorem dX11_feed_124 : decode cX11_feed 124 = .ok (.ireturn, 1) := by decide +kernel
theorem dX11_feed_15 : decode cX11_feed 15 = .ok (.if_icmp .le 5, 3) := by decide +kernel
theorem dX11_feed_18 : decode cX11_feed 18 = .ok (.iconst (-1), 1) := by decide +kernel
theorem dX11_feed_19 : decode cX11_feed 19 = .ok (.ireturn, 1) := by decide +kernel
theorem dX11_feed_2 : decode cX11_feed 2 = .ok (.putfield 70, 3) := by decide +kernel
theorem dX11_feed_20 : decode cX11_feed 20 = .ok (.iconst 0, 1) := by decide +kernel
theorem dX11_feed_21 : decode cX11_feed 21 = .ok (.istore 6, 2) := by decide +kernel
theorem dX11_feed_23 : decode cX11_feed 23 = .ok (.iload 6, 2) := by decide +kernel
theorem dX11_feed_25 : decode cX11_feed 25 = .ok (.bipush 20, 2) := by decide +kernel
theorem dX11_feed_27 : decode cX11_feed 27 = .ok (.if_icmp .ge 93, 3) := by decide +kernel
theorem dX11_feed_30 : decode cX11_feed 30 = .ok (.iload 6, 2) := by decide +kernel
theorem dX11_feed_32 : decode cX11_feed 32 = .ok (.iconst 4, 1) := by decide +kernel
theorem dX11_feed_33 : decode cX11_feed 33 = .ok (.if_icmp .ge 7, 3) := by decide +kernel
theorem dX11_feed_36 : decode cX11_feed 36 = .ok (.iload_n 1, 1) := by decide +kernel
theorem dX11_feed_37 : decode cX11_feed 37 = .ok (.goto 39, 3) := by decide +kernel
theorem dX11_feed_40 : decode cX11_feed 40 = .ok (.iload 6, 2) := by decide +kernel
theorem dX11_feed_42 : decode cX11_feed 42 = .ok (.bipush 8, 2) := by decide +kernel
theorem dX11_feed_44 : decode cX11_feed 44 = .ok (.if_icmp .ge 7, 3) := by decide +kernel
theorem dX11_feed_47 : decode cX11_feed 47 = .ok (.iload_n 2, 1) := by decide +kernel
theorem dX11_feed_48 : decode cX11_feed 48 = .ok (.goto 28, 3) := by decide +kernel
theorem dX11_feed_5 : decode cX11_feed 5 = .ok (.aload_n 0, 1) := by decide +kernel
theorem dX11_feed_51 : decode cX11_feed 51 = .ok (.iload 6, 2) := by decide +kernel
theorem dX11_feed_53 : decode cX11_feed 53 = .ok (.bipush 12, 2) := by decide +kernel
theorem dX11_feed_55 : decode cX11_feed 55 = .ok (.if_icmp .ge 7, 3) := by decide +kernel
theorem dX11_feed_58 : decode cX11_feed 58 = .ok (.iload_n 3, 1) := by decide +kernel
theorem dX11_feed_59 : decode cX11_feed 59 = .ok (.goto 17, 3) := by decide +kernel
theorem dX11_feed_6 : decode cX11_feed 6 = .ok (.getfield 73, 3) := by decide +kernel
theorem dX11_feed_62 : decode cX11_feed 62 = .ok (.iload 6, 2) := by decide +kernel
theorem dX11_feed_64 : decode cX11_feed 64 = .ok (.bipush 16, 2) := by decide +kernel
theorem dX11_feed_66 : decode cX11_feed 66 = .ok (.if_icmp .ge 8, 3) := by decide +kernel
theorem dX11_feed_69 : decode cX11_feed 69 = .ok (.iload 4, 2) := by decide +kernel
theorem dX11_feed_71 : decode cX11_feed 71 = .ok (.goto 5, 3) := by decide +kernel
theorem dX11_feed_74 : decode cX11_feed 74 = .ok (.iload 5, 2) := by decide +kernel
theorem dX11_feed_76 : decode cX11_feed 76 = .ok (.istore 7, 2) := by decide +kernel
theorem dX11_feed_78 : decode cX11_feed 78 = .ok (.aload_n 0, 1) := by decide +kernel
theorem dX11_feed_79 : decode cX11_feed 79 = .ok (.getfield 23, 3) := by decide +kernel
theorem dX11_feed_82 : decode cX11_feed 82 = .ok (.aload_n 0, 1) := by decide +kernel
theorem dX11_feed_83 : decode cX11_feed 83 = .ok (.getfield 73, 3) := by decide +kernel
theorem dX11_feed_86 : decode cX11_feed 86 = .ok (.iload 7, 2) := by decide +kernel
theorem dX11_feed_88 : decode cX11_feed 88 = .ok (.bipush 24, 2) := by decide +kernel
theorem dX11_feed_9 : decode cX11_feed 9 = .ok (.bipush 20, 2) := by decide +kernel
theorem dX11_feed_90 : decode cX11_feed 90 = .ok (.bipush 8, 2) := by decide +kernel
theorem dX11_feed_92 : decode cX11_feed 92 = .ok (.iload 6, 2) := by decide +kernel
theorem dX11_feed_94 : decode cX11_feed 94 = .ok (.iconst 3, 1) := by decide +kernel
theorem dX11_feed_95 : decode cX11_feed 95 = .ok (.iand, 1) := by decide +kernel
theorem dX11_feed_96 : decode cX11_feed 96 = .ok (.imul, 1) := by decide +kernel
theorem dX11_feed_97 : decode cX11_feed 97 = .ok (.isub, 1) := by decide +kernel
theorem dX11_feed_98 : decode cX11_feed 98 = .ok (.iushr, 1) := by decide +kernel
theorem dX11_feed_99 : decode cX11_feed 99 = .ok (.sipush 255, 3) := by decide +kernel
theorem dX11_freeWord_0 : decode cX11_freeWord 0 = .ok (.aload_n 0, 1) := by decide +kernel
theorem dX11_freeWord_1 : decode cX11_freeWord 1 = .ok (.ldc 195, 2) := by decide +kernel
theorem dX11_freeWord_10 : decode cX11_freeWord 10 = .ok (.ireturn, 1) := by decide +kernel
theorem dX11_freeWord_11 : decode cX11_freeWord 11 = .ok (.aload_n 0, 1) := by decide +kernel
theorem dX11_freeWord_12 : decode cX11_freeWord 12 = .ok (.ldc 197, 2) := by decide +kernel
theorem dX11_freeWord_14 : decode cX11_freeWord 14 = .ok (.invokevirtual 135, 3) := by decide +kernel
theorem dX11_freeWord_17 : decode cX11_freeWord 17 = .ok (.ifCond .eq 5, 3) := by decide +kernel
theorem dX11_freeWord_20 : decode cX11_freeWord 20 = .ok (.iconst 1, 1) := by decide +kernel
theorem dX11_freeWord_21 : decode cX11_freeWord 21 = .ok (.ireturn, 1) := by decide +kernel
theorem dX11_freeWord_22 : decode cX11_freeWord 22 = .ok (.aload_n 0, 1) := by decide +kernel
theorem dX11_freeWord_23 : decode cX11_freeWord 23 = .ok (.ldc 199, 2) := by decide +kernel
theorem dX11_freeWord_25 : decode cX11_freeWord 25 = .ok (.invokevirtual 135, 3) := by decide +kernel
theorem dX11_freeWord_28 : decode cX11_freeWord 28 = .ok (.ifCond .eq 5, 3) := by decide +kernel
theorem dX11_freeWord_3 : decode cX11_freeWord 3 = .ok (.invokevirtual 135, 3) := by decide +kernel
theorem dX11_freeWord_31 : decode cX11_freeWord 31 = .ok (.iconst 2, 1) := by decide +kernel
theorem dX11_freeWord_32 : decode cX11_freeWord 32 = .ok (.ireturn, 1) := by decide +kernel
theorem dX11_freeWord_33 : decode cX11_freeWord 33 = .ok (.aload_n 0, 1) := by decide +kernel
theorem dX11_freeWord_34 : decode cX11_freeWord 34 = .ok (.ldc 201, 2) := by decide +kernel
theorem dX11_freeWord_36 : decode cX11_freeWord 36 = .ok (.invokevirtual 135, 3) := by decide +kernel
theorem dX11_freeWord_39 : decode cX11_freeWord 39 = .ok (.ifCond .eq 5, 3) := by decide +kernel
theorem dX11_freeWord_42 : decode cX11_freeWord 42 = .ok (.iconst 3, 1) := by decide +kernel
theorem dX11_freeWord_43 : decode cX11_freeWord 43 = .ok (.ireturn, 1) := by decide +kernel
theorem dX11_freeWord_44 : decode cX11_freeWord 44 = .ok (.aload_n 0, 1) := by decide +kernel
theorem dX11_freeWord_45 : decode cX11_freeWord 45 = .ok (.ldc 191, 2) := by decide +kernel
theorem dX11_freeWord_47 : decode cX11_freeWord 47 = .ok (.invokevirtual 135, 3) := by decide +kernel
theorem dX11_freeWord_50 : decode cX11_freeWord 50 = .ok (.ifCond .eq 7, 3) := by decide +kernel
theorem dX11_freeWord_53 : decode cX11_freeWord 53 = .ok (.iconst 4, 1) := by decide +kernel
theorem dX11_freeWord_54 : decode cX11_freeWord 54 = .ok (.goto 4, 3) := by decide +kernel
theorem dX11_freeWord_57 : decode cX11_freeWord 57 = .ok (.iconst (-1), 1) := by decide +kernel
theorem dX11_freeWord_58 : decode cX11_freeWord 58 = .ok (.ireturn, 1) := by decide +kernel
theorem dX11_freeWord_6 : decode cX11_freeWord 6 = .ok (.ifCond .eq 5, 3) := by decide +kernel
theorem dX11_freeWord_9 : decode cX11_freeWord 9 = .ok (.iconst 0, 1) := by decide +kernel
theorem dX11_goesIn_0 : decode cX11_goesIn 0 = .ok (.aload_n 0, 1) := by decide +kernel
theorem dX11_goesIn_1 : decode cX11_goesIn 1 = .ok (.getfield 144, 3) := by decide +kernel
theorem dX11_goesIn_10 : decode cX11_goesIn 10 = .ok (.iconst 4, 1) := by decide +kernel
theorem dX11_goesIn_11 : decode cX11_goesIn 11 = .ok (.invokevirtual 127, 3) := by decide +kernel
theorem dX11_goesIn_14 : decode cX11_goesIn 14 = .ok (.aload_n 0, 1) := by decide +kernel
theorem dX11_goesIn_15 : decode cX11_goesIn 15 = .ok (.dup, 1) := by decide +kernel
theorem dX11_goesIn_16 : decode cX11_goesIn 16 = .ok (.getfield 144, 3) := by decide +kernel
theorem dX11_goesIn_19 : decode cX11_goesIn 19 = .ok (.iconst 1, 1) := by decide +kernel
theorem dX11_goesIn_20 : decode cX11_goesIn 20 = .ok (.iadd, 1) := by decide +kernel
theorem dX11_goesIn_21 : decode cX11_goesIn 21 = .ok (.putfield 144, 3) := by decide +kernel
theorem dX11_goesIn_24 : decode cX11_goesIn 24 = .ok (.aload_n 0, 1) := by decide +kernel
theorem dX11_goesIn_25 : decode cX11_goesIn 25 = .ok (.getfield 105, 3) := by decide +kernel
theorem dX11_goesIn_28 : decode cX11_goesIn 28 = .ok (.ifCond .ne 7, 3) := by decide +kernel
theorem dX11_goesIn_31 : decode cX11_goesIn 31 = .ok (.aload_n 0, 1) := by decide +kernel
theorem dX11_goesIn_32 : decode cX11_goesIn 32 = .ok (.invokevirtual 124, 3) := by decide +kernel
theorem dX11_goesIn_35 : decode cX11_goesIn 35 = .ok (.return_, 1) := by decide +kernel
theorem dX11_goesIn_4 : decode cX11_goesIn 4 = .ok (.bipush 6, 2) := by decide +kernel
theorem dX11_goesIn_6 : decode cX11_goesIn 6 = .ok (.if_icmp .ne 8, 3) := by decide +kernel
theorem dX11_goesIn_9 : decode cX11_goesIn 9 = .ok (.aload_n 0, 1) := by decide +kernel
theorem dX11_hangWord_0 : decode cX11_hangWord 0 = .ok (.aload_n 0, 1) := by decide +kernel
theorem dX11_hangWord_1 : decode cX11_hangWord 1 = .ok (.ldc 183, 2) := by decide +kernel
theorem dX11_hangWord_10 : decode cX11_hangWord 10 = .ok (.ireturn, 1) := by decide +kernel
theorem dX11_hangWord_11 : decode cX11_hangWord 11 = .ok (.aload_n 0, 1) := by decide +kernel
theorem dX11_hangWord_12 : decode cX11_hangWord 12 = .ok (.ldc 185, 2) := by decide +kernel
theorem dX11_hangWord_14 : decode cX11_hangWord 14 = .ok (.invokevirtual 135, 3) := by decide +kernel
theorem dX11_hangWord_17 : decode cX11_hangWord 17 = .ok (.ifCond .eq 5, 3) := by decide +kernel
theorem dX11_hangWord_20 : decode cX11_hangWord 20 = .ok (.iconst 1, 1) := by decide +kernel
theorem dX11_hangWord_21 : decode cX11_hangWord 21 = .ok (.ireturn, 1) := by decide +kernel
theorem dX11_hangWord_22 : decode cX11_hangWord 22 = .ok (.aload_n 0, 1) := by decide +kernel
theorem dX11_hangWord_23 : decode cX11_hangWord 23 = .ok (.ldc 187, 2) := by decide +kernel
theorem dX11_hangWord_25 : decode cX11_hangWord 25 = .ok (.invokevirtual 135, 3) := by decide +kernel
theorem dX11_hangWord_28 : decode cX11_hangWord 28 = .ok (.ifCond .eq 5, 3) := by decide +kernel
theorem dX11_hangWord_3 : decode cX11_hangWord 3 = .ok (.invokevirtual 135, 3) := by decide +kernel
theorem dX11_hangWord_31 : decode cX11_hangWord 31 = .ok (.iconst 2, 1) := by decide +kernel
theorem dX11_hangWord_32 : decode cX11_hangWord 32 = .ok (.ireturn, 1) := by decide +kernel
theorem dX11_hangWord_33 : decode cX11_hangWord 33 = .ok (.aload_n 0, 1) := by decide +kernel
theorem dX11_hangWord_34 : decode cX11_hangWord 34 = .ok (.ldc 189, 2) := by decide +kernel
theorem dX11_hangWord_36 : decode cX11_hangWord 36 = .ok (.invokevirtual 135, 3) := by decide +kernel
theorem dX11_hangWord_39 : decode cX11_hangWord 39 = .ok (.ifCond .eq 5, 3) := by decide +kernel
theorem dX11_hangWord_42 : decode cX11_hangWord 42 = .ok (.iconst 3, 1) := by decide +kernel
theorem dX11_hangWord_43 : decode cX11_hangWord 43 = .ok (.ireturn, 1) := by decide +kernel
theorem dX11_hangWord_44 : decode cX11_hangWord 44 = .ok (.aload_n 0, 1) := by decide +kernel
theorem dX11_hangWord_45 : decode cX11_hangWord 45 = .ok (.ldc 191, 2) := by decide +kernel
theorem dX11_hangWord_47 : decode cX11_hangWord 47 = .ok (.invokevirtual 135, 3) := by decide +kernel
theorem dX11_hangWord_50 : decode cX11_hangWord 50 = .ok (.ifCond .eq 5, 3) := by decide +kernel
theorem dX11_hangWord_53 : decode cX11_hangWord 53 = .ok (.iconst 4, 1) := by decide +kernel
theorem dX11_hangWord_54 : decode cX11_hangWord 54 = .ok (.ireturn, 1) := by decide +kernel
theorem dX11_hangWord_55 : decode cX11_hangWord 55 = .ok (.aload_n 0, 1) := by decide +kernel
theorem dX11_hangWord_56 : decode cX11_hangWord 56 = .ok (.ldc 193, 2) := by decide +kernel
theorem dX11_hangWord_58 : decode cX11_hangWord 58 = .ok (.invokevirtual 135, 3) := by decide +kernel
theorem dX11_hangWord_6 : decode cX11_hangWord 6 = .ok (.ifCond .eq 5, 3) := by decide +kernel
theorem dX11_hangWord_61 : decode cX11_hangWord 61 = .ok (.ifCond .eq 7, 3) := by decide +kernel
theorem dX11_hangWord_64 : decode cX11_hangWord 64 = .ok (.iconst 5, 1) := by decide +kernel
theorem dX11_hangWord_65 : decode cX11_hangWord 65 = .ok (.goto 4, 3) := by decide +kernel
theorem dX11_hangWord_68 : decode cX11_hangWord 68 = .ok (.iconst (-1), 1) := by decide +kernel
theorem dX11_hangWord_69 : decode cX11_hangWord 69 = .ok (.ireturn, 1) := by decide +kernel
theorem dX11_hangWord_9 : decode cX11_hangWord 9 = .ok (.iconst 0, 1) := by decide +kernel
theorem dX11_hangsIn_0 : decode cX11_hangsIn 0 = .ok (.aload_n 0, 1) := by decide +kernel
theorem dX11_hangsIn_1 : decode cX11_hangsIn 1 = .ok (.iload_n 1, 1) := by decide +kernel
theorem dX11_hangsIn_10 : decode cX11_hangsIn 10 = .ok (.getfield 9, 3) := by decide +kernel
theorem dX11_hangsIn_13 : decode cX11_hangsIn 13 = .ok (.bipush 16, 2) := by decide +kernel
theorem dX11_hangsIn_15 : decode cX11_hangsIn 15 = .ok (.iload_n 1, 1) := by decide +kernel
theorem dX11_hangsIn_16 : decode cX11_hangsIn 16 = .ok (.iadd, 1) := by decide +kernel
theorem dX11_hangsIn_17 : decode cX11_hangsIn 17 = .ok (.iaload, 1) := by decide +kernel
theorem dX11_hangsIn_18 : decode cX11_hangsIn 18 = .ok (.iload_n 2, 1) := by decide +kernel
theorem dX11_hangsIn_19 : decode cX11_hangsIn 19 = .ok (.if_icmp .ne 7, 3) := by decide +kernel
theorem dX11_hangsIn_2 : decode cX11_hangsIn 2 = .ok (.iconst 1, 1) := by decide +kernel
theorem dX11_hangsIn_22 : decode cX11_hangsIn 22 = .ok (.iconst 1, 1) := by decide +kernel
theorem dX11_hangsIn_23 : decode cX11_hangsIn 23 = .ok (.goto 4, 3) := by decide +kernel
theorem dX11_hangsIn_26 : decode cX11_hangsIn 26 = .ok (.iconst 0, 1) := by decide +kernel
theorem dX11_hangsIn_27 : decode cX11_hangsIn 27 = .ok (.ireturn, 1) := by decide +kernel
theorem dX11_hangsIn_3 : decode cX11_hangsIn 3 = .ok (.invokevirtual 283, 3) := by decide +kernel
theorem dX11_hangsIn_6 : decode cX11_hangsIn 6 = .ok (.ifCond .eq 20, 3) := by decide +kernel
theorem dX11_hangsIn_9 : decode cX11_hangsIn 9 = .ok (.aload_n 0, 1) := by decide +kernel
theorem dX11_has_0 : decode cX11_has 0 = .ok (.iload_n 0, 1) := by decide +kernel
theorem dX11_has_1 : decode cX11_has 1 = .ok (.iload_n 1, 1) := by decide +kernel
theorem dX11_has_10 : decode cX11_has 10 = .ok (.goto 4, 3) := by decide +kernel
theorem dX11_has_13 : decode cX11_has 13 = .ok (.iconst 0, 1) := by decide +kernel
theorem dX11_has_14 : decode cX11_has 14 = .ok (.ireturn, 1) := by decide +kernel
theorem dX11_has_2 : decode cX11_has 2 = .ok (.ishr, 1) := by decide +kernel
theorem dX11_has_3 : decode cX11_has 3 = .ok (.iconst 1, 1) := by decide +kernel
theorem dX11_has_4 : decode cX11_has 4 = .ok (.iand, 1) := by decide +kernel
theorem dX11_has_5 : decode cX11_has 5 = .ok (.iconst 1, 1) := by decide +kernel
theorem dX11_has_6 : decode cX11_has 6 = .ok (.if_icmp .ne 7, 3) := by decide +kernel
theorem dX11_has_9 : decode cX11_has 9 = .ok (.iconst 1, 1) := by decide +kernel
theorem dX11_height_0 : decode cX11_height 0 = .ok (.aload_n 0, 1) := by decide +kernel
theorem dX11_height_1 : decode cX11_height 1 = .ok (.iconst 0, 1) := by decide +kernel
theorem dX11_height_11 : decode cX11_height 11 = .ok (.ifCond .eq 11, 3) := by decide +kernel
theorem dX11_height_14 : decode cX11_height 14 = .ok (.aload_n 0, 1) := by decide +kernel
theorem dX11_height_15 : decode cX11_height 15 = .ok (.iload_n 1, 1) := by decide +kernel
theorem dX11_height_16 : decode cX11_height 16 = .ok (.invokevirtual 311, 3) := by decide +kernel
theorem dX11_height_19 : decode cX11_height 19 = .ok (.goto 8, 3) := by decide +kernel
theorem dX11_height_2 : decode cX11_height 2 = .ok (.putfield 70, 3) := by decide +kernel
theorem dX11_height_22 : decode cX11_height 22 = .ok (.aload_n 0, 1) := by decide +kernel
theorem dX11_height_23 : decode cX11_height 23 = .ok (.iconst 1, 1) := by decide +kernel
theorem dX11_height_24 : decode cX11_height 24 = .ok (.invokevirtual 269, 3) := by decide +kernel
theorem dX11_height_27 : decode cX11_height 27 = .ok (.ireturn, 1) := by decide +kernel
theorem dX11_height_5 : decode cX11_height 5 = .ok (.aload_n 0, 1) := by decide +kernel
theorem dX11_height_6 : decode cX11_height 6 = .ok (.iload_n 1, 1) := by decide +kernel
theorem dX11_height_7 : decode cX11_height 7 = .ok (.i2l, 1) := by decide +kernel
theorem dX11_height_8 : decode cX11_height 8 = .ok (.invokevirtual 286, 3) := by decide +kernel
theorem dX11_hurtAll_0 : decode cX11_hurtAll 0 = .ok (.iconst 0, 1) := by decide +kernel
theorem dX11_hurtAll_1 : decode cX11_hurtAll 1 = .ok (.istore_n 1, 1) := by decide +kernel
theorem dX11_hurtAll_10 : decode cX11_hurtAll 10 = .ok (.iaload, 1) := by decide +kernel
theorem dX11_hurtAll_11 : decode cX11_hurtAll 11 = .ok (.if_icmp .ge 21, 3) := by decide +kernel
theorem dX11_hurtAll_14 : decode cX11_hurtAll 14 = .ok (.iload_n 1, 1) := by decide +kernel
theorem dX11_hurtAll_15 : decode cX11_hurtAll 15 = .ok (.aload_n 0, 1) := by decide +kernel
theorem dX11_hurtAll_16 : decode cX11_hurtAll 16 = .ok (.getfield 9, 3) := by decide +kernel
theorem dX11_hurtAll_19 : decode cX11_hurtAll 19 = .ok (.bipush 41, 2) := by decide +kernel
theorem dX11_hurtAll_2 : decode cX11_hurtAll 2 = .ok (.iconst 0, 1) := by decide +kernel
theorem dX11_hurtAll_21 : decode cX11_hurtAll 21 = .ok (.iload_n 2, 1) := by decide +kernel
theorem dX11_hurtAll_22 : decode cX11_hurtAll 22 = .ok (.iadd, 1) := by decide +kernel
theorem dX11_hurtAll_23 : decode cX11_hurtAll 23 = .ok (.iaload, 1) := by decide +kernel
theorem dX11_hurtAll_24 : decode cX11_hurtAll 24 = .ok (.iadd, 1) := by decide +kernel
theorem dX11_hurtAll_25 : decode cX11_hurtAll 25 = .ok (.istore_n 1, 1) := by decide +kernel
theorem dX11_hurtAll_26 : decode cX11_hurtAll 26 = .ok (.iinc 2 1, 3) := by decide +kernel
theorem dX11_hurtAll_29 : decode cX11_hurtAll 29 = .ok (.goto (-25), 3) := by decide +kernel
theorem dX11_hurtAll_3 : decode cX11_hurtAll 3 = .ok (.istore_n 2, 1) := by decide +kernel
theorem dX11_hurtAll_32 : decode cX11_hurtAll 32 = .ok (.iload_n 1, 1) := by decide +kernel
theorem dX11_hurtAll_33 : decode cX11_hurtAll 33 = .ok (.ireturn, 1) := by decide +kernel
theorem dX11_hurtAll_4 : decode cX11_hurtAll 4 = .ok (.iload_n 2, 1) := by decide +kernel
theorem dX11_hurtAll_5 : decode cX11_hurtAll 5 = .ok (.aload_n 0, 1) := by decide +kernel
theorem dX11_hurtAll_6 : decode cX11_hurtAll 6 = .ok (.getfield 9, 3) := by decide +kernel
theorem dX11_hurtAll_9 : decode cX11_hurtAll 9 = .ok (.iconst 4, 1) := by decide +kernel
theorem dX11_isColumn_0 : decode cX11_isColumn 0 = .ok (.lload_n 1, 1) := by decide +kernel
theorem dX11_isColumn_1 : decode cX11_isColumn 1 = .ok (.lconst 0, 1) := by decide +kernel
theorem dX11_isColumn_10 : decode cX11_isColumn 10 = .ok (.i2l, 1) := by decide +kernel
theorem dX11_isColumn_11 : decode cX11_isColumn 11 = .ok (.invokestatic 131, 3) := by decide +kernel
theorem dX11_isColumn_14 : decode cX11_isColumn 14 = .ok (.ireturn, 1) := by decide +kernel
theorem dX11_isColumn_2 : decode cX11_isColumn 2 = .ok (.aload_n 0, 1) := by decide +kernel
theorem dX11_isColumn_3 : decode cX11_isColumn 3 = .ok (.getfield 9, 3) := by decide +kernel
theorem dX11_isColumn_6 : decode cX11_isColumn 6 = .ok (.iconst 1, 1) := by decide +kernel
theorem dX11_isColumn_7 : decode cX11_isColumn 7 = .ok (.iaload, 1) := by decide +kernel
theorem dX11_isColumn_8 : decode cX11_isColumn 8 = .ok (.iconst 1, 1) := by decide +kernel
theorem dX11_isColumn_9 : decode cX11_isColumn 9 = .ok (.isub, 1) := by decide +kernel
theorem dX11_isDigit_0 : decode cX11_isDigit 0 = .ok (.iload_n 0, 1) := by decide +kernel
theorem dX11_isDigit_1 : decode cX11_isDigit 1 = .ok (.bipush 48, 2) := by decide +kernel
theorem dX11_isDigit_12 : decode cX11_isDigit 12 = .ok (.iconst 1, 1) := by decide +kernel
theorem dX11_isDigit_13 : decode cX11_isDigit 13 = .ok (.goto 4, 3) := by decide +kernel
theorem dX11_isDigit_16 : decode cX11_isDigit 16 = .ok (.iconst 0, 1) := by decide +kernel
theorem dX11_isDigit_17 : decode cX11_isDigit 17 = .ok (.ireturn, 1) := by decide +kernel
theorem dX11_isDigit_3 : decode cX11_isDigit 3 = .ok (.if_icmp .lt 13, 3) := by decide +kernel
theorem dX11_isDigit_6 : decode cX11_isDigit 6 = .ok (.iload_n 0, 1) := by decide +kernel
theorem dX11_isDigit_7 : decode cX11_isDigit 7 = .ok (.bipush 57, 2) := by decide +kernel
theorem dX11_isDigit_9 : decode cX11_isDigit 9 = .ok (.if_icmp .gt 7, 3) := by decide +kernel
theorem dX11_isFreeIn_0 : decode cX11_isFreeIn 0 = .ok (.iload_n 2, 1) := by decide +kernel
theorem dX11_isFreeIn_1 : decode cX11_isFreeIn 1 = .ok (.aload_n 0, 1) := by decide +kernel
theorem dX11_isFreeIn_10 : decode cX11_isFreeIn 10 = .ok (.invokestatic 230, 3) := by decide +kernel
theorem dX11_isFreeIn_13 : decode cX11_isFreeIn 13 = .ok (.if_icmp .ge 5, 3) := by decide +kernel
theorem dX11_isFreeIn_16 : decode cX11_isFreeIn 16 = .ok (.iconst 0, 1) := by decide +kernel
theorem dX11_isFreeIn_17 : decode cX11_isFreeIn 17 = .ok (.ireturn, 1) := by decide +kernel
theorem dX11_isFreeIn_18 : decode cX11_isFreeIn 18 = .ok (.iconst 0, 1) := by decide +kernel
theorem dX11_isFreeIn_19 : decode cX11_isFreeIn 19 = .ok (.istore_n 3, 1) := by decide +kernel
theorem dX11_isFreeIn_2 : decode cX11_isFreeIn 2 = .ok (.iconst 2, 1) := by decide +kernel
theorem dX11_isFreeIn_20 : decode cX11_isFreeIn 20 = .ok (.iload_n 3, 1) := by decide +kernel
theorem dX11_isFreeIn_21 : decode cX11_isFreeIn 21 = .ok (.aload_n 0, 1) := by decide +kernel
theorem dX11_isFreeIn_22 : decode cX11_isFreeIn 22 = .ok (.iconst 3, 1) := by decide +kernel
theorem dX11_isFreeIn_23 : decode cX11_isFreeIn 23 = .ok (.iaload, 1) := by decide +kernel
theorem dX11_isFreeIn_24 : decode cX11_isFreeIn 24 = .ok (.if_icmp .ge 41, 3) := by decide +kernel
theorem dX11_isFreeIn_27 : decode cX11_isFreeIn 27 = .ok (.aload_n 0, 1) := by decide +kernel
theorem dX11_isFreeIn_28 : decode cX11_isFreeIn 28 = .ok (.bipush 8, 2) := by decide +kernel
theorem dX11_isFreeIn_3 : decode cX11_isFreeIn 3 = .ok (.iaload, 1) := by decide +kernel
theorem dX11_isFreeIn_30 : decode cX11_isFreeIn 30 = .ok (.iload_n 3, 1) := by decide +kernel
theorem dX11_isFreeIn_31 : decode cX11_isFreeIn 31 = .ok (.iadd, 1) := by decide +kernel
theorem dX11_isFreeIn_32 : decode cX11_isFreeIn 32 = .ok (.iaload, 1) := by decide +kernel
theorem dX11_isFreeIn_33 : decode cX11_isFreeIn 33 = .ok (.iconst 1, 1) := by decide +kernel
theorem dX11_isFreeIn_34 : decode cX11_isFreeIn 34 = .ok (.if_icmp .ne 25, 3) := by decide +kernel
theorem dX11_isFreeIn_37 : decode cX11_isFreeIn 37 = .ok (.aload_n 0, 1) := by decide +kernel
theorem dX11_isFreeIn_38 : decode cX11_isFreeIn 38 = .ok (.bipush 16, 2) := by decide +kernel
theorem dX11_isFreeIn_4 : decode cX11_isFreeIn 4 = .ok (.if_icmp .ge 12, 3) := by decide +kernel
theorem dX11_isFreeIn_40 : decode cX11_isFreeIn 40 = .ok (.iload_n 3, 1) := by decide +kernel
theorem dX11_isFreeIn_41 : decode cX11_isFreeIn 41 = .ok (.iadd, 1) := by decide +kernel
theorem dX11_isFreeIn_42 : decode cX11_isFreeIn 42 = .ok (.iaload, 1) := by decide +kernel
theorem dX11_isFreeIn_43 : decode cX11_isFreeIn 43 = .ok (.iload_n 1, 1) := by decide +kernel
theorem dX11_isFreeIn_44 : decode cX11_isFreeIn 44 = .ok (.if_icmp .ne 15, 3) := by decide +kernel
theorem dX11_isFreeIn_47 : decode cX11_isFreeIn 47 = .ok (.aload_n 0, 1) := by decide +kernel
theorem dX11_isFreeIn_48 : decode cX11_isFreeIn 48 = .ok (.bipush 24, 2) := by decide +kernel
theorem dX11_isFreeIn_50 : decode cX11_isFreeIn 50 = .ok (.iload_n 3, 1) := by decide +kernel
theorem dX11_isFreeIn_51 : decode cX11_isFreeIn 51 = .ok (.iadd, 1) := by decide +kernel
theorem dX11_isFreeIn_52 : decode cX11_isFreeIn 52 = .ok (.iaload, 1) := by decide +kernel
theorem dX11_isFreeIn_53 : decode cX11_isFreeIn 53 = .ok (.iload_n 2, 1) := by decide +kernel
theorem dX11_isFreeIn_54 : decode cX11_isFreeIn 54 = .ok (.if_icmp .ne 5, 3) := by decide +kernel
theorem dX11_isFreeIn_57 : decode cX11_isFreeIn 57 = .ok (.iconst 0, 1) := by decide +kernel
theorem dX11_isFreeIn_58 : decode cX11_isFreeIn 58 = .ok (.ireturn, 1) := by decide +kernel
theorem dX11_isFreeIn_59 : decode cX11_isFreeIn 59 = .ok (.iinc 3 1, 3) := by decide +kernel
theorem dX11_isFreeIn_62 : decode cX11_isFreeIn 62 = .ok (.goto (-42), 3) := by decide +kernel
theorem dX11_isFreeIn_65 : decode cX11_isFreeIn 65 = .ok (.iconst 1, 1) := by decide +kernel
theorem dX11_isFreeIn_66 : decode cX11_isFreeIn 66 = .ok (.ireturn, 1) := by decide +kernel
theorem dX11_isFreeIn_7 : decode cX11_isFreeIn 7 = .ok (.iload_n 2, 1) := by decide +kernel
theorem dX11_isFreeIn_8 : decode cX11_isFreeIn 8 = .ok (.aload_n 0, 1) := by decide +kernel
theorem dX11_isFreeIn_9 : decode cX11_isFreeIn 9 = .ok (.iload_n 1, 1) := by decide +kernel
theorem dX11_isLetter_0 : decode cX11_isLetter 0 = .ok (.iload_n 0, 1) := by decide +kernel
theorem dX11_isLetter_1 : decode cX11_isLetter 1 = .ok (.bipush 97, 2) := by decide +kernel
theorem dX11_isLetter_12 : decode cX11_isLetter 12 = .ok (.iconst 1, 1) := by decide +kernel
theorem dX11_isLetter_13 : decode cX11_isLetter 13 = .ok (.goto 4, 3) := by decide +kernel
theorem dX11_isLetter_16 : decode cX11_isLetter 16 = .ok (.iconst 0, 1) := by decide +kernel
theorem dX11_isLetter_17 : decode cX11_isLetter 17 = .ok (.ireturn, 1) := by decide +kernel
theorem dX11_isLetter_3 : decode cX11_isLetter 3 = .ok (.if_icmp .lt 13, 3) := by decide +kernel
theorem dX11_isLetter_6 : decode cX11_isLetter 6 = .ok (.iload_n 0, 1) := by decide +kernel
theorem dX11_isLetter_7 : decode cX11_isLetter 7 = .ok (.bipush 122, 2) := by decide +kernel
theorem dX11_isLetter_9 : decode cX11_isLetter 9 = .ok (.if_icmp .gt 7, 3) := by decide +kernel
theorem dX11_isPlace_0 : decode cX11_isPlace 0 = .ok (.aload_n 0, 1) := by decide +kernel
theorem dX11_isPlace_1 : decode cX11_isPlace 1 = .ok (.lload_n 1, 1) := by decide +kernel
theorem dX11_isPlace_10 : decode cX11_isPlace 10 = .ok (.aload_n 0, 1) := by decide +kernel
theorem dX11_isPlace_11 : decode cX11_isPlace 11 = .ok (.getfield 9, 3) := by decide +kernel
theorem dX11_isPlace_14 : decode cX11_isPlace 14 = .ok (.iconst 2, 1) := by decide +kernel
theorem dX11_isPlace_15 : decode cX11_isPlace 15 = .ok (.iaload, 1) := by decide +kernel
theorem dX11_isPlace_16 : decode cX11_isPlace 16 = .ok (.iconst 1, 1) := by decide +kernel
theorem dX11_isPlace_17 : decode cX11_isPlace 17 = .ok (.isub, 1) := by decide +kernel
theorem dX11_isPlace_18 : decode cX11_isPlace 18 = .ok (.i2l, 1) := by decide +kernel
theorem dX11_isPlace_19 : decode cX11_isPlace 19 = .ok (.invokestatic 131, 3) := by decide +kernel
theorem dX11_isPlace_2 : decode cX11_isPlace 2 = .ok (.invokevirtual 286, 3) := by decide +kernel
theorem dX11_isPlace_22 : decode cX11_isPlace 22 = .ok (.ifCond .eq 7, 3) := by decide +kernel
theorem dX11_isPlace_25 : decode cX11_isPlace 25 = .ok (.iconst 1, 1) := by decide +kernel
theorem dX11_isPlace_26 : decode cX11_isPlace 26 = .ok (.goto 4, 3) := by decide +kernel
theorem dX11_isPlace_29 : decode cX11_isPlace 29 = .ok (.iconst 0, 1) := by decide +kernel
theorem dX11_isPlace_30 : decode cX11_isPlace 30 = .ok (.ireturn, 1) := by decide +kernel
theorem dX11_isPlace_5 : decode cX11_isPlace 5 = .ok (.ifCond .eq 24, 3) := by decide +kernel
theorem dX11_isPlace_8 : decode cX11_isPlace 8 = .ok (.lload_n 3, 1) := by decide +kernel
theorem dX11_isPlace_9 : decode cX11_isPlace 9 = .ok (.lconst 0, 1) := by decide +kernel
theorem dX11_isSignByte_0 : decode cX11_isSignByte 0 = .ok (.iload_n 0, 1) := by decide +kernel
theorem dX11_isSignByte_1 : decode cX11_isSignByte 1 = .ok (.bipush 91, 2) := by decide +kernel
theorem dX11_isSignByte_12 : decode cX11_isSignByte 12 = .ok (.iload_n 0, 1) := by decide +kernel
theorem dX11_isSignByte_13 : decode cX11_isSignByte 13 = .ok (.bipush 61, 2) := by decide +kernel
theorem dX11_isSignByte_15 : decode cX11_isSignByte 15 = .ok (.if_icmp .eq 21, 3) := by decide +kernel
theorem dX11_isSignByte_18 : decode cX11_isSignByte 18 = .ok (.iload_n 0, 1) := by decide +kernel
theorem dX11_isSignByte_19 : decode cX11_isSignByte 19 = .ok (.bipush 60, 2) := by decide +kernel
theorem dX11_isSignByte_21 : decode cX11_isSignByte 21 = .ok (.if_icmp .eq 15, 3) := by decide +kernel
theorem dX11_isSignByte_24 : decode cX11_isSignByte 24 = .ok (.iload_n 0, 1) := by decide +kernel
theorem dX11_isSignByte_25 : decode cX11_isSignByte 25 = .ok (.bipush 62, 2) := by decide +kernel
theorem dX11_isSignByte_27 : decode cX11_isSignByte 27 = .ok (.if_icmp .eq 9, 3) := by decide +kernel
theorem dX11_isSignByte_3 : decode cX11_isSignByte 3 = .ok (.if_icmp .eq 33, 3) := by decide +kernel
theorem dX11_isSignByte_30 : decode cX11_isSignByte 30 = .ok (.iload_n 0, 1) := by decide +kernel
theorem dX11_isSignByte_31 : decode cX11_isSignByte 31 = .ok (.bipush 58, 2) := by decide +kernel
theorem dX11_isSignByte_33 : decode cX11_isSignByte 33 = .ok (.if_icmp .ne 7, 3) := by decide +kernel
theorem dX11_isSignByte_36 : decode cX11_isSignByte 36 = .ok (.iconst 1, 1) := by decide +kernel
theorem dX11_isSignByte_37 : decode cX11_isSignByte 37 = .ok (.goto 4, 3) := by decide +kernel
theorem dX11_isSignByte_40 : decode cX11_isSignByte 40 = .ok (.iconst 0, 1) := by decide +kernel
theorem dX11_isSignByte_41 : decode cX11_isSignByte 41 = .ok (.istore_n 1, 1) := by decide +kernel
theorem dX11_isSignByte_42 : decode cX11_isSignByte 42 = .ok (.iload_n 1, 1) := by decide +kernel
theorem dX11_isSignByte_43 : decode cX11_isSignByte 43 = .ok (.ifCond .ne 39, 3) := by decide +kernel
theorem dX11_isSignByte_46 : decode cX11_isSignByte 46 = .ok (.iload_n 0, 1) := by decide +kernel
theorem dX11_isSignByte_47 : decode cX11_isSignByte 47 = .ok (.bipush 59, 2) := by decide +kernel
theorem dX11_isSignByte_49 : decode cX11_isSignByte 49 = .ok (.if_icmp .eq 33, 3) := by decide +kernel
theorem dX11_isSignByte_52 : decode cX11_isSignByte 52 = .ok (.iload_n 0, 1) := by decide +kernel
theorem dX11_isSignByte_53 : decode cX11_isSignByte 53 = .ok (.bipush 43, 2) := by decide +kernel
theorem dX11_isSignByte_55 : decode cX11_isSignByte 55 = .ok (.if_icmp .eq 27, 3) := by decide +kernel
theorem dX11_isSignByte_58 : decode cX11_isSignByte 58 = .ok (.iload_n 0, 1) := by decide +kernel
theorem dX11_isSignByte_59 : decode cX11_isSignByte 59 = .ok (.bipush 45, 2) := by decide +kernel
theorem dX11_isSignByte_6 : decode cX11_isSignByte 6 = .ok (.iload_n 0, 1) := by decide +kernel
theorem dX11_isSignByte_61 : decode cX11_isSignByte 61 = .ok (.if_icmp .eq 21, 3) := by decide +kernel
theorem dX11_isSignByte_64 : decode cX11_isSignByte 64 = .ok (.iload_n 0, 1) := by decide +kernel
theorem dX11_isSignByte_65 : decode cX11_isSignByte 65 = .ok (.bipush 42, 2) := by decide +kernel
theorem dX11_isSignByte_67 : decode cX11_isSignByte 67 = .ok (.if_icmp .eq 15, 3) := by decide +kernel
theorem dX11_isSignByte_7 : decode cX11_isSignByte 7 = .ok (.bipush 93, 2) := by decide +kernel
theorem dX11_isSignByte_70 : decode cX11_isSignByte 70 = .ok (.iload_n 0, 1) := by decide +kernel
theorem dX11_isSignByte_71 : decode cX11_isSignByte 71 = .ok (.bipush 40, 2) := by decide +kernel
theorem dX11_isSignByte_73 : decode cX11_isSignByte 73 = .ok (.if_icmp .eq 9, 3) := by decide +kernel
theorem dX11_isSignByte_76 : decode cX11_isSignByte 76 = .ok (.iload_n 0, 1) := by decide +kernel
theorem dX11_isSignByte_77 : decode cX11_isSignByte 77 = .ok (.bipush 41, 2) := by decide +kernel
theorem dX11_isSignByte_79 : decode cX11_isSignByte 79 = .ok (.if_icmp .ne 7, 3) := by decide +kernel
theorem dX11_isSignByte_82 : decode cX11_isSignByte 82 = .ok (.iconst 1, 1) := by decide +kernel
theorem dX11_isSignByte_83 : decode cX11_isSignByte 83 = .ok (.goto 4, 3) := by decide +kernel
theorem dX11_isSignByte_86 : decode cX11_isSignByte 86 = .ok (.iconst 0, 1) := by decide +kernel
theorem dX11_isSignByte_87 : decode cX11_isSignByte 87 = .ok (.ireturn, 1) := by decide +kernel
theorem dX11_isSignByte_9 : decode cX11_isSignByte 9 = .ok (.if_icmp .eq 27, 3) := by decide +kernel
theorem dX11_isSign_0 : decode cX11_isSign 0 = .ok (.aload_n 0, 1) := by decide +kernel
theorem dX11_isSign_1 : decode cX11_isSign 1 = .ok (.getfield 105, 3) := by decide +kernel
theorem dX11_isSign_11 : decode cX11_isSign 11 = .ok (.iload_n 1, 1) := by decide +kernel
theorem dX11_isSign_12 : decode cX11_isSign 12 = .ok (.if_icmp .ne 7, 3) := by decide +kernel
theorem dX11_isSign_15 : decode cX11_isSign 15 = .ok (.iconst 1, 1) := by decide +kernel
theorem dX11_isSign_16 : decode cX11_isSign 16 = .ok (.goto 4, 3) := by decide +kernel
theorem dX11_isSign_19 : decode cX11_isSign 19 = .ok (.iconst 0, 1) := by decide +kernel
theorem dX11_isSign_20 : decode cX11_isSign 20 = .ok (.ireturn, 1) := by decide +kernel
theorem dX11_isSign_4 : decode cX11_isSign 4 = .ok (.ifCond .ne 15, 3) := by decide +kernel
theorem dX11_isSign_7 : decode cX11_isSign 7 = .ok (.aload_n 0, 1) := by decide +kernel
theorem dX11_isSign_8 : decode cX11_isSign 8 = .ok (.getfield 85, 3) := by decide +kernel
theorem dX11_isThing_0 : decode cX11_isThing 0 = .ok (.lload_n 1, 1) := by decide +kernel
theorem dX11_isThing_1 : decode cX11_isThing 1 = .ok (.lconst 0, 1) := by decide +kernel
theorem dX11_isThing_12 : decode cX11_isThing 12 = .ok (.ireturn, 1) := by decide +kernel
theorem dX11_isThing_2 : decode cX11_isThing 2 = .ok (.aload_n 0, 1) := by decide +kernel
theorem dX11_isThing_3 : decode cX11_isThing 3 = .ok (.invokevirtual 280, 3) := by decide +kernel
theorem dX11_isThing_6 : decode cX11_isThing 6 = .ok (.iconst 1, 1) := by decide +kernel
theorem dX11_isThing_7 : decode cX11_isThing 7 = .ok (.isub, 1) := by decide +kernel
theorem dX11_isThing_8 : decode cX11_isThing 8 = .ok (.i2l, 1) := by decide +kernel
theorem dX11_isThing_9 : decode cX11_isThing 9 = .ok (.invokestatic 131, 3) := by decide +kernel
theorem dX11_isTray_0 : decode cX11_isTray 0 = .ok (.iload_n 0, 1) := by decide +kernel
theorem dX11_isTray_1 : decode cX11_isTray 1 = .ok (.i2l, 1) := by decide +kernel
theorem dX11_isTray_2 : decode cX11_isTray 2 = .ok (.lconst 0, 1) := by decide +kernel
theorem dX11_isTray_3 : decode cX11_isTray 3 = .ok (.ldc2_w 423, 3) := by decide +kernel
theorem dX11_isTray_6 : decode cX11_isTray 6 = .ok (.invokestatic 131, 3) := by decide +kernel
theorem dX11_isTray_9 : decode cX11_isTray 9 = .ok (.ireturn, 1) := by decide +kernel
theorem dX11_isWalker_0 : decode cX11_isWalker 0 = .ok (.iload_n 1, 1) := by decide +kernel
theorem dX11_isWalker_1 : decode cX11_isWalker 1 = .ok (.i2l, 1) := by decide +kernel
theorem dX11_isWalker_10 : decode cX11_isWalker 10 = .ok (.isub, 1) := by decide +kernel
theorem dX11_isWalker_11 : decode cX11_isWalker 11 = .ok (.i2l, 1) := by decide +kernel
theorem dX11_isWalker_12 : decode cX11_isWalker 12 = .ok (.invokestatic 131, 3) := by decide +kernel
theorem dX11_isWalker_15 : decode cX11_isWalker 15 = .ok (.ireturn, 1) := by decide +kernel
theorem dX11_isWalker_2 : decode cX11_isWalker 2 = .ok (.lconst 0, 1) := by decide +kernel
theorem dX11_isWalker_3 : decode cX11_isWalker 3 = .ok (.aload_n 0, 1) := by decide +kernel
theorem dX11_isWalker_4 : decode cX11_isWalker 4 = .ok (.getfield 9, 3) := by decide +kernel
theorem dX11_isWalker_7 : decode cX11_isWalker 7 = .ok (.iconst 4, 1) := by decide +kernel
theorem dX11_isWalker_8 : decode cX11_isWalker 8 = .ok (.iaload, 1) := by decide +kernel
theorem dX11_isWalker_9 : decode cX11_isWalker 9 = .ok (.iconst 1, 1) := by decide +kernel
theorem dX11_isWord_0 : decode cX11_isWord 0 = .ok (.aload_n 0, 1) := by decide +kernel
theorem dX11_isWord_1 : decode cX11_isWord 1 = .ok (.getfield 105, 3) := by decide +kernel
theorem dX11_isWord_11 : decode cX11_isWord 11 = .ok (.iconst 1, 1) := by decide +kernel
theorem dX11_isWord_12 : decode cX11_isWord 12 = .ok (.if_icmp .ne 23, 3) := by decide +kernel
theorem dX11_isWord_15 : decode cX11_isWord 15 = .ok (.aload_n 0, 1) := by decide +kernel
theorem dX11_isWord_16 : decode cX11_isWord 16 = .ok (.getfield 79, 3) := by decide +kernel
theorem dX11_isWord_19 : decode cX11_isWord 19 = .ok (.aload_n 0, 1) := by decide +kernel
theorem dX11_isWord_20 : decode cX11_isWord 20 = .ok (.getfield 82, 3) := by decide +kernel
theorem dX11_isWord_23 : decode cX11_isWord 23 = .ok (.isub, 1) := by decide +kernel
theorem dX11_isWord_24 : decode cX11_isWord 24 = .ok (.aload_n 1, 1) := by decide +kernel
theorem dX11_isWord_25 : decode cX11_isWord 25 = .ok (.invokevirtual 111, 3) := by decide +kernel
theorem dX11_isWord_28 : decode cX11_isWord 28 = .ok (.if_icmp .ne 7, 3) := by decide +kernel
theorem dX11_isWord_31 : decode cX11_isWord 31 = .ok (.iconst 1, 1) := by decide +kernel
theorem dX11_isWord_32 : decode cX11_isWord 32 = .ok (.goto 4, 3) := by decide +kernel
theorem dX11_isWord_35 : decode cX11_isWord 35 = .ok (.iconst 0, 1) := by decide +kernel
theorem dX11_isWord_36 : decode cX11_isWord 36 = .ok (.istore_n 2, 1) := by decide +kernel
theorem dX11_isWord_37 : decode cX11_isWord 37 = .ok (.iconst 0, 1) := by decide +kernel
theorem dX11_isWord_38 : decode cX11_isWord 38 = .ok (.istore_n 3, 1) := by decide +kernel
theorem dX11_isWord_39 : decode cX11_isWord 39 = .ok (.iload_n 2, 1) := by decide +kernel
theorem dX11_isWord_4 : decode cX11_isWord 4 = .ok (.ifCond .ne 31, 3) := by decide +kernel
theorem dX11_isWord_40 : decode cX11_isWord 40 = .ok (.ifCond .eq 42, 3) := by decide +kernel
theorem dX11_isWord_43 : decode cX11_isWord 43 = .ok (.iload_n 3, 1) := by decide +kernel
theorem dX11_isWord_44 : decode cX11_isWord 44 = .ok (.aload_n 1, 1) := by decide +kernel
theorem dX11_isWord_45 : decode cX11_isWord 45 = .ok (.invokevirtual 111, 3) := by decide +kernel
theorem dX11_isWord_48 : decode cX11_isWord 48 = .ok (.if_icmp .ge 34, 3) := by decide +kernel
theorem dX11_isWord_51 : decode cX11_isWord 51 = .ok (.aload_n 0, 1) := by decide +kernel
theorem dX11_isWord_52 : decode cX11_isWord 52 = .ok (.getfield 23, 3) := by decide +kernel
theorem dX11_isWord_55 : decode cX11_isWord 55 = .ok (.aload_n 0, 1) := by decide +kernel
theorem dX11_isWord_56 : decode cX11_isWord 56 = .ok (.getfield 82, 3) := by decide +kernel
theorem dX11_isWord_59 : decode cX11_isWord 59 = .ok (.iload_n 3, 1) := by decide +kernel
theorem dX11_isWord_60 : decode cX11_isWord 60 = .ok (.iadd, 1) := by decide +kernel
theorem dX11_isWord_61 : decode cX11_isWord 61 = .ok (.iaload, 1) := by decide +kernel
theorem dX11_isWord_62 : decode cX11_isWord 62 = .ok (.aload_n 1, 1) := by decide +kernel
theorem dX11_isWord_63 : decode cX11_isWord 63 = .ok (.iload_n 3, 1) := by decide +kernel
theorem dX11_isWord_64 : decode cX11_isWord 64 = .ok (.invokevirtual 116, 3) := by decide +kernel
theorem dX11_isWord_67 : decode cX11_isWord 67 = .ok (.if_icmp .ne 7, 3) := by decide +kernel
theorem dX11_isWord_7 : decode cX11_isWord 7 = .ok (.aload_n 0, 1) := by decide +kernel
theorem dX11_isWord_70 : decode cX11_isWord 70 = .ok (.iconst 1, 1) := by decide +kernel
theorem dX11_isWord_71 : decode cX11_isWord 71 = .ok (.goto 4, 3) := by decide +kernel
theorem dX11_isWord_74 : decode cX11_isWord 74 = .ok (.iconst 0, 1) := by decide +kernel
theorem dX11_isWord_75 : decode cX11_isWord 75 = .ok (.istore_n 2, 1) := by decide +kernel
theorem dX11_isWord_76 : decode cX11_isWord 76 = .ok (.iinc 3 1, 3) := by decide +kernel
theorem dX11_isWord_79 : decode cX11_isWord 79 = .ok (.goto (-40), 3) := by decide +kernel
theorem dX11_isWord_8 : decode cX11_isWord 8 = .ok (.getfield 85, 3) := by decide +kernel
theorem dX11_isWord_82 : decode cX11_isWord 82 = .ok (.iload_n 2, 1) := by decide +kernel
theorem dX11_isWord_83 : decode cX11_isWord 83 = .ok (.ireturn, 1) := by decide +kernel
theorem dX11_is_0 : decode cX11_is 0 = .ok (.aload_n 0, 1) := by decide +kernel
theorem dX11_is_1 : decode cX11_is 1 = .ok (.getfield 9, 3) := by decide +kernel
theorem dX11_is_10 : decode cX11_is 10 = .ok (.if_icmp .ne 7, 3) := by decide +kernel
theorem dX11_is_13 : decode cX11_is 13 = .ok (.iconst 1, 1) := by decide +kernel
theorem dX11_is_14 : decode cX11_is 14 = .ok (.goto 4, 3) := by decide +kernel
theorem dX11_is_17 : decode cX11_is 17 = .ok (.iconst 0, 1) := by decide +kernel
theorem dX11_is_18 : decode cX11_is 18 = .ok (.ireturn, 1) := by decide +kernel
theorem dX11_is_4 : decode cX11_is 4 = .ok (.bipush 8, 2) := by decide +kernel
theorem dX11_is_6 : decode cX11_is 6 = .ok (.iload_n 1, 1) := by decide +kernel
theorem dX11_is_7 : decode cX11_is 7 = .ok (.iadd, 1) := by decide +kernel
theorem dX11_is_8 : decode cX11_is 8 = .ok (.iaload, 1) := by decide +kernel
theorem dX11_is_9 : decode cX11_is 9 = .ok (.iload_n 2, 1) := by decide +kernel
theorem dX11_keeps_0 : decode cX11_keeps 0 = .ok (.aload_n 0, 1) := by decide +kernel
theorem dX11_keeps_1 : decode cX11_keeps 1 = .ok (.getfield 9, 3) := by decide +kernel
theorem dX11_keeps_101 : decode cX11_keeps 101 = .ok (.bipush 7, 2) := by decide +kernel
theorem dX11_keeps_103 : decode cX11_keeps 103 = .ok (.dup2, 1) := by decide +kernel
theorem dX11_keeps_104 : decode cX11_keeps 104 = .ok (.iaload, 1) := by decide +kernel
theorem dX11_keeps_105 : decode cX11_keeps 105 = .ok (.iconst 1, 1) := by decide +kernel
theorem dX11_keeps_106 : decode cX11_keeps 106 = .ok (.iadd, 1) := by decide +kernel
theorem dX11_keeps_107 : decode cX11_keeps 107 = .ok (.iastore, 1) := by decide +kernel
theorem dX11_keeps_108 : decode cX11_keeps 108 = .ok (.return_, 1) := by decide +kernel
theorem dX11_keeps_12 : decode cX11_keeps 12 = .ok (.bipush 89, 2) := by decide +kernel
theorem dX11_keeps_14 : decode cX11_keeps 14 = .ok (.istore_n 1, 1) := by decide +kernel
theorem dX11_keeps_15 : decode cX11_keeps 15 = .ok (.iload_n 1, 1) := by decide +kernel
theorem dX11_keeps_16 : decode cX11_keeps 16 = .ok (.sipush 422, 3) := by decide +kernel
theorem dX11_keeps_19 : decode cX11_keeps 19 = .ok (.if_icmp .ge 24, 3) := by decide +kernel
theorem dX11_keeps_22 : decode cX11_keeps 22 = .ok (.aload_n 0, 1) := by decide +kernel
theorem dX11_keeps_23 : decode cX11_keeps 23 = .ok (.getfield 9, 3) := by decide +kernel
theorem dX11_keeps_26 : decode cX11_keeps 26 = .ok (.iload_n 1, 1) := by decide +kernel
theorem dX11_keeps_27 : decode cX11_keeps 27 = .ok (.aload_n 0, 1) := by decide +kernel
theorem dX11_keeps_28 : decode cX11_keeps 28 = .ok (.getfield 9, 3) := by decide +kernel
theorem dX11_keeps_31 : decode cX11_keeps 31 = .ok (.iload_n 1, 1) := by decide +kernel
theorem dX11_keeps_32 : decode cX11_keeps 32 = .ok (.bipush 37, 2) := by decide +kernel
theorem dX11_keeps_34 : decode cX11_keeps 34 = .ok (.iadd, 1) := by decide +kernel
theorem dX11_keeps_35 : decode cX11_keeps 35 = .ok (.iaload, 1) := by decide +kernel
theorem dX11_keeps_36 : decode cX11_keeps 36 = .ok (.iastore, 1) := by decide +kernel
theorem dX11_keeps_37 : decode cX11_keeps 37 = .ok (.iinc 1 1, 3) := by decide +kernel
theorem dX11_keeps_4 : decode cX11_keeps 4 = .ok (.bipush 7, 2) := by decide +kernel
theorem dX11_keeps_40 : decode cX11_keeps 40 = .ok (.goto (-25), 3) := by decide +kernel
theorem dX11_keeps_43 : decode cX11_keeps 43 = .ok (.aload_n 0, 1) := by decide +kernel
theorem dX11_keeps_44 : decode cX11_keeps 44 = .ok (.getfield 9, 3) := by decide +kernel
theorem dX11_keeps_47 : decode cX11_keeps 47 = .ok (.bipush 7, 2) := by decide +kernel
theorem dX11_keeps_49 : decode cX11_keeps 49 = .ok (.dup2, 1) := by decide +kernel
theorem dX11_keeps_50 : decode cX11_keeps 50 = .ok (.iaload, 1) := by decide +kernel
theorem dX11_keeps_51 : decode cX11_keeps 51 = .ok (.iconst 1, 1) := by decide +kernel
theorem dX11_keeps_52 : decode cX11_keeps 52 = .ok (.isub, 1) := by decide +kernel
theorem dX11_keeps_53 : decode cX11_keeps 53 = .ok (.iastore, 1) := by decide +kernel
theorem dX11_keeps_54 : decode cX11_keeps 54 = .ok (.iconst 0, 1) := by decide +kernel
theorem dX11_keeps_55 : decode cX11_keeps 55 = .ok (.istore_n 1, 1) := by decide +kernel
theorem dX11_keeps_56 : decode cX11_keeps 56 = .ok (.iload_n 1, 1) := by decide +kernel
theorem dX11_keeps_57 : decode cX11_keeps 57 = .ok (.bipush 37, 2) := by decide +kernel
theorem dX11_keeps_59 : decode cX11_keeps 59 = .ok (.if_icmp .ge 38, 3) := by decide +kernel
theorem dX11_keeps_6 : decode cX11_keeps 6 = .ok (.iaload, 1) := by decide +kernel
theorem dX11_keeps_62 : decode cX11_keeps 62 = .ok (.aload_n 0, 1) := by decide +kernel
theorem dX11_keeps_63 : decode cX11_keeps 63 = .ok (.getfield 9, 3) := by decide +kernel
theorem dX11_keeps_66 : decode cX11_keeps 66 = .ok (.bipush 89, 2) := by decide +kernel
theorem dX11_keeps_68 : decode cX11_keeps 68 = .ok (.bipush 37, 2) := by decide +kernel
theorem dX11_keeps_7 : decode cX11_keeps 7 = .ok (.bipush 10, 2) := by decide +kernel
theorem dX11_keeps_70 : decode cX11_keeps 70 = .ok (.aload_n 0, 1) := by decide +kernel
theorem dX11_keeps_71 : decode cX11_keeps 71 = .ok (.getfield 9, 3) := by decide +kernel
theorem dX11_keeps_74 : decode cX11_keeps 74 = .ok (.bipush 7, 2) := by decide +kernel
theorem dX11_keeps_76 : decode cX11_keeps 76 = .ok (.iaload, 1) := by decide +kernel
theorem dX11_keeps_77 : decode cX11_keeps 77 = .ok (.imul, 1) := by decide +kernel
theorem dX11_keeps_78 : decode cX11_keeps 78 = .ok (.iadd, 1) := by decide +kernel
theorem dX11_keeps_79 : decode cX11_keeps 79 = .ok (.iload_n 1, 1) := by decide +kernel
theorem dX11_keeps_80 : decode cX11_keeps 80 = .ok (.iadd, 1) := by decide +kernel
theorem dX11_keeps_81 : decode cX11_keeps 81 = .ok (.aload_n 0, 1) := by decide +kernel
theorem dX11_keeps_82 : decode cX11_keeps 82 = .ok (.getfield 9, 3) := by decide +kernel
theorem dX11_keeps_85 : decode cX11_keeps 85 = .ok (.bipush 8, 2) := by decide +kernel
theorem dX11_keeps_87 : decode cX11_keeps 87 = .ok (.iload_n 1, 1) := by decide +kernel
theorem dX11_keeps_88 : decode cX11_keeps 88 = .ok (.iadd, 1) := by decide +kernel
theorem dX11_keeps_89 : decode cX11_keeps 89 = .ok (.iaload, 1) := by decide +kernel
theorem dX11_keeps_9 : decode cX11_keeps 9 = .ok (.if_icmp .ne 45, 3) := by decide +kernel
theorem dX11_keeps_90 : decode cX11_keeps 90 = .ok (.iastore, 1) := by decide +kernel
theorem dX11_keeps_91 : decode cX11_keeps 91 = .ok (.iinc 1 1, 3) := by decide +kernel
theorem dX11_keeps_94 : decode cX11_keeps 94 = .ok (.goto (-38), 3) := by decide +kernel
theorem dX11_keeps_97 : decode cX11_keeps 97 = .ok (.aload_n 0, 1) := by decide +kernel
theorem dX11_keeps_98 : decode cX11_keeps 98 = .ok (.getfield 9, 3) := by decide +kernel
theorem dX11_lawWord_0 : decode cX11_lawWord 0 = .ok (.aload_n 0, 1) := by decide +kernel
theorem dX11_lawWord_1 : decode cX11_lawWord 1 = .ok (.getfield 141, 3) := by decide +kernel
theorem dX11_lawWord_12 : decode cX11_lawWord 12 = .ok (.goto 7, 3) := by decide +kernel
theorem dX11_lawWord_15 : decode cX11_lawWord 15 = .ok (.aload_n 0, 1) := by decide +kernel
theorem dX11_lawWord_16 : decode cX11_lawWord 16 = .ok (.invokevirtual 206, 3) := by decide +kernel
theorem dX11_lawWord_19 : decode cX11_lawWord 19 = .ok (.ireturn, 1) := by decide +kernel
theorem dX11_lawWord_4 : decode cX11_lawWord 4 = .ok (.iconst 5, 1) := by decide +kernel
theorem dX11_lawWord_5 : decode cX11_lawWord 5 = .ok (.if_icmp .ne 10, 3) := by decide +kernel
theorem dX11_lawWord_8 : decode cX11_lawWord 8 = .ok (.aload_n 0, 1) := by decide +kernel
theorem dX11_lawWord_9 : decode cX11_lawWord 9 = .ok (.invokevirtual 203, 3) := by decide +kernel
theorem dX11_lyingAll_0 : decode cX11_lyingAll 0 = .ok (.iconst 0, 1) := by decide +kernel
theorem dX11_lyingAll_1 : decode cX11_lyingAll 1 = .ok (.istore_n 1, 1) := by decide +kernel
theorem dX11_lyingAll_12 : decode cX11_lyingAll 12 = .ok (.iload_n 1, 1) := by decide +kernel
theorem dX11_lyingAll_13 : decode cX11_lyingAll 13 = .ok (.aload_n 0, 1) := by decide +kernel
theorem dX11_lyingAll_14 : decode cX11_lyingAll 14 = .ok (.iload_n 2, 1) := by decide +kernel
theorem dX11_lyingAll_15 : decode cX11_lyingAll 15 = .ok (.iconst 2, 1) := by decide +kernel
theorem dX11_lyingAll_16 : decode cX11_lyingAll 16 = .ok (.invokevirtual 283, 3) := by decide +kernel
theorem dX11_lyingAll_19 : decode cX11_lyingAll 19 = .ok (.ifCond .eq 7, 3) := by decide +kernel
theorem dX11_lyingAll_2 : decode cX11_lyingAll 2 = .ok (.iconst 0, 1) := by decide +kernel
theorem dX11_lyingAll_22 : decode cX11_lyingAll 22 = .ok (.iconst 1, 1) := by decide +kernel
theorem dX11_lyingAll_23 : decode cX11_lyingAll 23 = .ok (.goto 4, 3) := by decide +kernel
theorem dX11_lyingAll_26 : decode cX11_lyingAll 26 = .ok (.iconst 0, 1) := by decide +kernel
theorem dX11_lyingAll_27 : decode cX11_lyingAll 27 = .ok (.iadd, 1) := by decide +kernel
theorem dX11_lyingAll_28 : decode cX11_lyingAll 28 = .ok (.istore_n 1, 1) := by decide +kernel
theorem dX11_lyingAll_29 : decode cX11_lyingAll 29 = .ok (.iinc 2 1, 3) := by decide +kernel
theorem dX11_lyingAll_3 : decode cX11_lyingAll 3 = .ok (.istore_n 2, 1) := by decide +kernel
theorem dX11_lyingAll_32 : decode cX11_lyingAll 32 = .ok (.goto (-28), 3) := by decide +kernel
theorem dX11_lyingAll_35 : decode cX11_lyingAll 35 = .ok (.iload_n 1, 1) := by decide +kernel
theorem dX11_lyingAll_36 : decode cX11_lyingAll 36 = .ok (.ireturn, 1) := by decide +kernel
theorem dX11_lyingAll_4 : decode cX11_lyingAll 4 = .ok (.iload_n 2, 1) := by decide +kernel
theorem dX11_lyingAll_5 : decode cX11_lyingAll 5 = .ok (.aload_n 0, 1) := by decide +kernel
theorem dX11_lyingAll_6 : decode cX11_lyingAll 6 = .ok (.invokevirtual 280, 3) := by decide +kernel
theorem dX11_lyingAll_9 : decode cX11_lyingAll 9 = .ok (.if_icmp .ge 26, 3) := by decide +kernel
theorem dX11_lyingIn_0 : decode cX11_lyingIn 0 = .ok (.iconst 0, 1) := by decide +kernel
theorem dX11_lyingIn_1 : decode cX11_lyingIn 1 = .ok (.istore_n 2, 1) := by decide +kernel
theorem dX11_lyingIn_11 : decode cX11_lyingIn 11 = .ok (.iload_n 2, 1) := by decide +kernel
theorem dX11_lyingIn_12 : decode cX11_lyingIn 12 = .ok (.aload_n 0, 1) := by decide +kernel
theorem dX11_lyingIn_13 : decode cX11_lyingIn 13 = .ok (.bipush 8, 2) := by decide +kernel
theorem dX11_lyingIn_15 : decode cX11_lyingIn 15 = .ok (.iload_n 3, 1) := by decide +kernel
theorem dX11_lyingIn_16 : decode cX11_lyingIn 16 = .ok (.iadd, 1) := by decide +kernel
theorem dX11_lyingIn_17 : decode cX11_lyingIn 17 = .ok (.iaload, 1) := by decide +kernel
theorem dX11_lyingIn_18 : decode cX11_lyingIn 18 = .ok (.iconst 2, 1) := by decide +kernel
theorem dX11_lyingIn_19 : decode cX11_lyingIn 19 = .ok (.if_icmp .ne 17, 3) := by decide +kernel
theorem dX11_lyingIn_2 : decode cX11_lyingIn 2 = .ok (.iconst 0, 1) := by decide +kernel
theorem dX11_lyingIn_22 : decode cX11_lyingIn 22 = .ok (.aload_n 0, 1) := by decide +kernel
theorem dX11_lyingIn_23 : decode cX11_lyingIn 23 = .ok (.bipush 16, 2) := by decide +kernel
theorem dX11_lyingIn_25 : decode cX11_lyingIn 25 = .ok (.iload_n 3, 1) := by decide +kernel
theorem dX11_lyingIn_26 : decode cX11_lyingIn 26 = .ok (.iadd, 1) := by decide +kernel
theorem dX11_lyingIn_27 : decode cX11_lyingIn 27 = .ok (.iaload, 1) := by decide +kernel
theorem dX11_lyingIn_28 : decode cX11_lyingIn 28 = .ok (.iload_n 1, 1) := by decide +kernel
theorem dX11_lyingIn_29 : decode cX11_lyingIn 29 = .ok (.if_icmp .ne 7, 3) := by decide +kernel
theorem dX11_lyingIn_3 : decode cX11_lyingIn 3 = .ok (.istore_n 3, 1) := by decide +kernel
theorem dX11_lyingIn_32 : decode cX11_lyingIn 32 = .ok (.iconst 1, 1) := by decide +kernel
theorem dX11_lyingIn_33 : decode cX11_lyingIn 33 = .ok (.goto 4, 3) := by decide +kernel
theorem dX11_lyingIn_36 : decode cX11_lyingIn 36 = .ok (.iconst 0, 1) := by decide +kernel
theorem dX11_lyingIn_37 : decode cX11_lyingIn 37 = .ok (.iadd, 1) := by decide +kernel
theorem dX11_lyingIn_38 : decode cX11_lyingIn 38 = .ok (.istore_n 2, 1) := by decide +kernel
theorem dX11_lyingIn_39 : decode cX11_lyingIn 39 = .ok (.iinc 3 1, 3) := by decide +kernel
theorem dX11_lyingIn_4 : decode cX11_lyingIn 4 = .ok (.iload_n 3, 1) := by decide +kernel
theorem dX11_lyingIn_42 : decode cX11_lyingIn 42 = .ok (.goto (-38), 3) := by decide +kernel
theorem dX11_lyingIn_45 : decode cX11_lyingIn 45 = .ok (.iload_n 2, 1) := by decide +kernel
theorem dX11_lyingIn_46 : decode cX11_lyingIn 46 = .ok (.ireturn, 1) := by decide +kernel
theorem dX11_lyingIn_5 : decode cX11_lyingIn 5 = .ok (.aload_n 0, 1) := by decide +kernel
theorem dX11_lyingIn_6 : decode cX11_lyingIn 6 = .ok (.iconst 3, 1) := by decide +kernel
theorem dX11_lyingIn_7 : decode cX11_lyingIn 7 = .ok (.iaload, 1) := by decide +kernel
theorem dX11_lyingIn_8 : decode cX11_lyingIn 8 = .ok (.if_icmp .ge 37, 3) := by decide +kernel
theorem dX11_lying_0 : decode cX11_lying 0 = .ok (.aload_n 0, 1) := by decide +kernel
theorem dX11_lying_1 : decode cX11_lying 1 = .ok (.getfield 9, 3) := by decide +kernel
theorem dX11_lying_4 : decode cX11_lying 4 = .ok (.iload_n 1, 1) := by decide +kernel
theorem dX11_lying_5 : decode cX11_lying 5 = .ok (.invokestatic 230, 3) := by decide +kernel
theorem dX11_lying_8 : decode cX11_lying 8 = .ok (.ireturn, 1) := by decide +kernel
theorem dX11_mustSign_0 : decode cX11_mustSign 0 = .ok (.aload_n 0, 1) := by decide +kernel
theorem dX11_mustSign_1 : decode cX11_mustSign 1 = .ok (.getfield 85, 3) := by decide +kernel
theorem dX11_mustSign_10 : decode cX11_mustSign 10 = .ok (.invokevirtual 127, 3) := by decide +kernel
theorem dX11_mustSign_13 : decode cX11_mustSign 13 = .ok (.aload_n 0, 1) := by decide +kernel
theorem dX11_mustSign_14 : decode cX11_mustSign 14 = .ok (.getfield 105, 3) := by decide +kernel
theorem dX11_mustSign_17 : decode cX11_mustSign 17 = .ok (.ifCond .ne 7, 3) := by decide +kernel
theorem dX11_mustSign_20 : decode cX11_mustSign 20 = .ok (.aload_n 0, 1) := by decide +kernel
theorem dX11_mustSign_21 : decode cX11_mustSign 21 = .ok (.invokevirtual 124, 3) := by decide +kernel
theorem dX11_mustSign_24 : decode cX11_mustSign 24 = .ok (.return_, 1) := by decide +kernel
theorem dX11_mustSign_4 : decode cX11_mustSign 4 = .ok (.iload_n 1, 1) := by decide +kernel
theorem dX11_mustSign_5 : decode cX11_mustSign 5 = .ok (.if_icmp .eq 8, 3) := by decide +kernel
theorem dX11_mustSign_8 : decode cX11_mustSign 8 = .ok (.aload_n 0, 1) := by decide +kernel
theorem dX11_mustSign_9 : decode cX11_mustSign 9 = .ok (.iconst 2, 1) := by decide +kernel
theorem dX11_mustWord_0 : decode cX11_mustWord 0 = .ok (.aload_n 0, 1) := by decide +kernel
theorem dX11_mustWord_1 : decode cX11_mustWord 1 = .ok (.aload_n 1, 1) := by decide +kernel
theorem dX11_mustWord_10 : decode cX11_mustWord 10 = .ok (.invokevirtual 127, 3) := by decide +kernel
theorem dX11_mustWord_13 : decode cX11_mustWord 13 = .ok (.return_, 1) := by decide +kernel
theorem dX11_mustWord_2 : decode cX11_mustWord 2 = .ok (.invokevirtual 135, 3) := by decide +kernel
theorem dX11_mustWord_5 : decode cX11_mustWord 5 = .ok (.ifCond .ne 8, 3) := by decide +kernel
theorem dX11_mustWord_8 : decode cX11_mustWord 8 = .ok (.aload_n 0, 1) := by decide +kernel
theorem dX11_mustWord_9 : decode cX11_mustWord 9 = .ok (.iconst 2, 1) := by decide +kernel
theorem dX11_nextHour_0 : decode cX11_nextHour 0 = .ok (.ldc_w 358, 3) := by decide +kernel
theorem dX11_nextHour_11 : decode cX11_nextHour 11 = .ok (.if_icmp .ge 32, 3) := by decide +kernel
theorem dX11_nextHour_14 : decode cX11_nextHour 14 = .ok (.aload_n 0, 1) := by decide +kernel
theorem dX11_nextHour_15 : decode cX11_nextHour 15 = .ok (.iload_n 2, 1) := by decide +kernel
theorem dX11_nextHour_16 : decode cX11_nextHour 16 = .ok (.iconst 1, 1) := by decide +kernel
theorem dX11_nextHour_17 : decode cX11_nextHour 17 = .ok (.invokevirtual 283, 3) := by decide +kernel
theorem dX11_nextHour_20 : decode cX11_nextHour 20 = .ok (.ifCond .eq 17, 3) := by decide +kernel
theorem dX11_nextHour_23 : decode cX11_nextHour 23 = .ok (.iload_n 1, 1) := by decide +kernel
theorem dX11_nextHour_24 : decode cX11_nextHour 24 = .ok (.aload_n 0, 1) := by decide +kernel
theorem dX11_nextHour_25 : decode cX11_nextHour 25 = .ok (.getfield 9, 3) := by decide +kernel
theorem dX11_nextHour_28 : decode cX11_nextHour 28 = .ok (.bipush 32, 2) := by decide +kernel
theorem dX11_nextHour_3 : decode cX11_nextHour 3 = .ok (.istore_n 1, 1) := by decide +kernel
theorem dX11_nextHour_30 : decode cX11_nextHour 30 = .ok (.iload_n 2, 1) := by decide +kernel
theorem dX11_nextHour_31 : decode cX11_nextHour 31 = .ok (.iadd, 1) := by decide +kernel
theorem dX11_nextHour_32 : decode cX11_nextHour 32 = .ok (.iaload, 1) := by decide +kernel
theorem dX11_nextHour_33 : decode cX11_nextHour 33 = .ok (.invokestatic 316, 3) := by decide +kernel
theorem dX11_nextHour_36 : decode cX11_nextHour 36 = .ok (.istore_n 1, 1) := by decide +kernel
theorem dX11_nextHour_37 : decode cX11_nextHour 37 = .ok (.iinc 2 1, 3) := by decide +kernel
theorem dX11_nextHour_4 : decode cX11_nextHour 4 = .ok (.iconst 0, 1) := by decide +kernel
theorem dX11_nextHour_40 : decode cX11_nextHour 40 = .ok (.goto (-34), 3) := by decide +kernel
theorem dX11_nextHour_43 : decode cX11_nextHour 43 = .ok (.iload_n 1, 1) := by decide +kernel
theorem dX11_nextHour_44 : decode cX11_nextHour 44 = .ok (.ireturn, 1) := by decide +kernel
theorem dX11_nextHour_5 : decode cX11_nextHour 5 = .ok (.istore_n 2, 1) := by decide +kernel
theorem dX11_nextHour_6 : decode cX11_nextHour 6 = .ok (.iload_n 2, 1) := by decide +kernel
theorem dX11_nextHour_7 : decode cX11_nextHour 7 = .ok (.aload_n 0, 1) := by decide +kernel
theorem dX11_nextHour_8 : decode cX11_nextHour 8 = .ok (.invokevirtual 280, 3) := by decide +kernel
theorem dX11_next_0 : decode cX11_next 0 = .ok (.aload_n 0, 1) := by decide +kernel
theorem dX11_next_1 : decode cX11_next 1 = .ok (.iconst 0, 1) := by decide +kernel
theorem dX11_next_10 : decode cX11_next 10 = .ok (.iload_n 1, 1) := by decide +kernel
theorem dX11_next_11 : decode cX11_next 11 = .ok (.ldc_w 358, 3) := by decide +kernel
theorem dX11_next_14 : decode cX11_next 14 = .ok (.if_icmp .ne 7, 3) := by decide +kernel
theorem dX11_next_17 : decode cX11_next 17 = .ok (.iconst (-1), 1) := by decide +kernel
theorem dX11_next_18 : decode cX11_next 18 = .ok (.goto 12, 3) := by decide +kernel
theorem dX11_next_2 : decode cX11_next 2 = .ok (.putfield 70, 3) := by decide +kernel
theorem dX11_next_21 : decode cX11_next 21 = .ok (.iload_n 1, 1) := by decide +kernel
theorem dX11_next_22 : decode cX11_next 22 = .ok (.aload_n 0, 1) := by decide +kernel
theorem dX11_next_23 : decode cX11_next 23 = .ok (.getfield 9, 3) := by decide +kernel
theorem dX11_next_26 : decode cX11_next 26 = .ok (.bipush 40, 2) := by decide +kernel
theorem dX11_next_28 : decode cX11_next 28 = .ok (.iaload, 1) := by decide +kernel
theorem dX11_next_29 : decode cX11_next 29 = .ok (.isub, 1) := by decide +kernel
theorem dX11_next_30 : decode cX11_next 30 = .ok (.ireturn, 1) := by decide +kernel
theorem dX11_next_5 : decode cX11_next 5 = .ok (.aload_n 0, 1) := by decide +kernel
theorem dX11_next_6 : decode cX11_next 6 = .ok (.invokevirtual 455, 3) := by decide +kernel
theorem dX11_next_9 : decode cX11_next 9 = .ok (.istore_n 1, 1) := by decide +kernel
theorem dX11_number_0 : decode cX11_number 0 = .ok (.aload_n 0, 1) := by decide +kernel
theorem dX11_number_1 : decode cX11_number 1 = .ok (.getfield 85, 3) := by decide +kernel
theorem dX11_number_10 : decode cX11_number 10 = .ok (.invokevirtual 127, 3) := by decide +kernel
theorem dX11_number_13 : decode cX11_number 13 = .ok (.goto 23, 3) := by decide +kernel
theorem dX11_number_16 : decode cX11_number 16 = .ok (.aload_n 0, 1) := by decide +kernel
theorem dX11_number_17 : decode cX11_number 17 = .ok (.getfield 99, 3) := by decide +kernel
theorem dX11_number_20 : decode cX11_number 20 = .ok (.i2l, 1) := by decide +kernel
theorem dX11_number_21 : decode cX11_number 21 = .ok (.iload_n 1, 1) := by decide +kernel
theorem dX11_number_22 : decode cX11_number 22 = .ok (.i2l, 1) := by decide +kernel
theorem dX11_number_23 : decode cX11_number 23 = .ok (.iload_n 2, 1) := by decide +kernel
theorem dX11_number_24 : decode cX11_number 24 = .ok (.i2l, 1) := by decide +kernel
theorem dX11_number_25 : decode cX11_number 25 = .ok (.invokestatic 131, 3) := by decide +kernel
theorem dX11_number_28 : decode cX11_number 28 = .ok (.ifCond .ne 8, 3) := by decide +kernel
theorem dX11_number_31 : decode cX11_number 31 = .ok (.aload_n 0, 1) := by decide +kernel
theorem dX11_number_32 : decode cX11_number 32 = .ok (.iconst 3, 1) := by decide +kernel
theorem dX11_number_33 : decode cX11_number 33 = .ok (.invokevirtual 127, 3) := by decide +kernel
theorem dX11_number_36 : decode cX11_number 36 = .ok (.aload_n 0, 1) := by decide +kernel
theorem dX11_number_37 : decode cX11_number 37 = .ok (.getfield 99, 3) := by decide +kernel
theorem dX11_number_4 : decode cX11_number 4 = .ok (.iconst 2, 1) := by decide +kernel
theorem dX11_number_40 : decode cX11_number 40 = .ok (.istore_n 3, 1) := by decide +kernel
theorem dX11_number_41 : decode cX11_number 41 = .ok (.aload_n 0, 1) := by decide +kernel
theorem dX11_number_42 : decode cX11_number 42 = .ok (.getfield 105, 3) := by decide +kernel
theorem dX11_number_45 : decode cX11_number 45 = .ok (.ifCond .ne 7, 3) := by decide +kernel
theorem dX11_number_48 : decode cX11_number 48 = .ok (.aload_n 0, 1) := by decide +kernel
theorem dX11_number_49 : decode cX11_number 49 = .ok (.invokevirtual 124, 3) := by decide +kernel
theorem dX11_number_5 : decode cX11_number 5 = .ok (.if_icmp .eq 11, 3) := by decide +kernel
theorem dX11_number_52 : decode cX11_number 52 = .ok (.aload_n 0, 1) := by decide +kernel
theorem dX11_number_53 : decode cX11_number 53 = .ok (.getfield 105, 3) := by decide +kernel
theorem dX11_number_56 : decode cX11_number 56 = .ok (.ifCond .ne 7, 3) := by decide +kernel
theorem dX11_number_59 : decode cX11_number 59 = .ok (.iload_n 3, 1) := by decide +kernel
theorem dX11_number_60 : decode cX11_number 60 = .ok (.goto 4, 3) := by decide +kernel
theorem dX11_number_63 : decode cX11_number 63 = .ok (.iload_n 1, 1) := by decide +kernel
theorem dX11_number_64 : decode cX11_number 64 = .ok (.ireturn, 1) := by decide +kernel
theorem dX11_number_8 : decode cX11_number 8 = .ok (.aload_n 0, 1) := by decide +kernel
theorem dX11_number_9 : decode cX11_number 9 = .ok (.iconst 2, 1) := by decide +kernel
theorem dX11_putsAside_0 : decode cX11_putsAside 0 = .ok (.iconst 0, 1) := by decide +kernel
theorem dX11_putsAside_1 : decode cX11_putsAside 1 = .ok (.istore_n 1, 1) := by decide +kernel
theorem dX11_putsAside_12 : decode cX11_putsAside 12 = .ok (.iload_n 1, 1) := by decide +kernel
theorem dX11_putsAside_13 : decode cX11_putsAside 13 = .ok (.aload_n 0, 1) := by decide +kernel
theorem dX11_putsAside_14 : decode cX11_putsAside 14 = .ok (.getfield 9, 3) := by decide +kernel
theorem dX11_putsAside_17 : decode cX11_putsAside 17 = .ok (.bipush 8, 2) := by decide +kernel
theorem dX11_putsAside_19 : decode cX11_putsAside 19 = .ok (.iload_n 1, 1) := by decide +kernel
theorem dX11_putsAside_2 : decode cX11_putsAside 2 = .ok (.iload_n 1, 1) := by decide +kernel
theorem dX11_putsAside_20 : decode cX11_putsAside 20 = .ok (.iadd, 1) := by decide +kernel
theorem dX11_putsAside_21 : decode cX11_putsAside 21 = .ok (.iaload, 1) := by decide +kernel
theorem dX11_putsAside_22 : decode cX11_putsAside 22 = .ok (.iastore, 1) := by decide +kernel
theorem dX11_putsAside_23 : decode cX11_putsAside 23 = .ok (.iinc 1 1, 3) := by decide +kernel
theorem dX11_putsAside_26 : decode cX11_putsAside 26 = .ok (.goto (-24), 3) := by decide +kernel
theorem dX11_putsAside_29 : decode cX11_putsAside 29 = .ok (.return_, 1) := by decide +kernel
theorem dX11_putsAside_3 : decode cX11_putsAside 3 = .ok (.bipush 37, 2) := by decide +kernel
theorem dX11_putsAside_5 : decode cX11_putsAside 5 = .ok (.if_icmp .ge 24, 3) := by decide +kernel
theorem dX11_putsAside_8 : decode cX11_putsAside 8 = .ok (.aload_n 0, 1) := by decide +kernel
theorem dX11_putsAside_9 : decode cX11_putsAside 9 = .ok (.getfield 36, 3) := by decide +kernel
theorem dX11_putsBack_0 : decode cX11_putsBack 0 = .ok (.iconst 0, 1) := by decide +kernel
theorem dX11_putsBack_1 : decode cX11_putsBack 1 = .ok (.istore_n 1, 1) := by decide +kernel
theorem dX11_putsBack_12 : decode cX11_putsBack 12 = .ok (.bipush 8, 2) := by decide +kernel
theorem dX11_putsBack_14 : decode cX11_putsBack 14 = .ok (.iload_n 1, 1) := by decide +kernel
theorem dX11_putsBack_15 : decode cX11_putsBack 15 = .ok (.iadd, 1) := by decide +kernel
theorem dX11_putsBack_16 : decode cX11_putsBack 16 = .ok (.aload_n 0, 1) := by decide +kernel
theorem dX11_putsBack_17 : decode cX11_putsBack 17 = .ok (.getfield 36, 3) := by decide +kernel
theorem dX11_putsBack_2 : decode cX11_putsBack 2 = .ok (.iload_n 1, 1) := by decide +kernel
theorem dX11_putsBack_20 : decode cX11_putsBack 20 = .ok (.iload_n 1, 1) := by decide +kernel
theorem dX11_putsBack_21 : decode cX11_putsBack 21 = .ok (.iaload, 1) := by decide +kernel
theorem dX11_putsBack_22 : decode cX11_putsBack 22 = .ok (.iastore, 1) := by decide +kernel
theorem dX11_putsBack_23 : decode cX11_putsBack 23 = .ok (.iinc 1 1, 3) := by decide +kernel
theorem dX11_putsBack_26 : decode cX11_putsBack 26 = .ok (.goto (-24), 3) := by decide +kernel
theorem dX11_putsBack_29 : decode cX11_putsBack 29 = .ok (.return_, 1) := by decide +kernel
theorem dX11_putsBack_3 : decode cX11_putsBack 3 = .ok (.bipush 37, 2) := by decide +kernel
theorem dX11_putsBack_5 : decode cX11_putsBack 5 = .ok (.if_icmp .ge 24, 3) := by decide +kernel
theorem dX11_putsBack_8 : decode cX11_putsBack 8 = .ok (.aload_n 0, 1) := by decide +kernel
theorem dX11_putsBack_9 : decode cX11_putsBack 9 = .ok (.getfield 9, 3) := by decide +kernel
theorem dX11_readStop_0 : decode cX11_readStop 0 = .ok (.aload_n 0, 1) := by decide +kernel
theorem dX11_readStop_1 : decode cX11_readStop 1 = .ok (.bipush 59, 2) := by decide +kernel
theorem dX11_readStop_10 : decode cX11_readStop 10 = .ok (.ifCond .ne 13, 3) := by decide +kernel
theorem dX11_readStop_13 : decode cX11_readStop 13 = .ok (.aload_n 0, 1) := by decide +kernel
theorem dX11_readStop_14 : decode cX11_readStop 14 = .ok (.getfield 13, 3) := by decide +kernel
theorem dX11_readStop_17 : decode cX11_readStop 17 = .ok (.iconst 0, 1) := by decide +kernel
theorem dX11_readStop_18 : decode cX11_readStop 18 = .ok (.dup2, 1) := by decide +kernel
theorem dX11_readStop_19 : decode cX11_readStop 19 = .ok (.iaload, 1) := by decide +kernel
theorem dX11_readStop_20 : decode cX11_readStop 20 = .ok (.iconst 1, 1) := by decide +kernel
theorem dX11_readStop_21 : decode cX11_readStop 21 = .ok (.iadd, 1) := by decide +kernel
theorem dX11_readStop_22 : decode cX11_readStop 22 = .ok (.iastore, 1) := by decide +kernel
theorem dX11_readStop_23 : decode cX11_readStop 23 = .ok (.return_, 1) := by decide +kernel
theorem dX11_readStop_3 : decode cX11_readStop 3 = .ok (.invokevirtual 171, 3) := by decide +kernel
theorem dX11_readStop_6 : decode cX11_readStop 6 = .ok (.aload_n 0, 1) := by decide +kernel
theorem dX11_readStop_7 : decode cX11_readStop 7 = .ok (.getfield 105, 3) := by decide +kernel
theorem dX11_readsOn_0 : decode cX11_readsOn 0 = .ok (.aload_n 0, 1) := by decide +kernel
theorem dX11_readsOn_1 : decode cX11_readsOn 1 = .ok (.getfield 79, 3) := by decide +kernel
theorem dX11_readsOn_102 : decode cX11_readsOn 102 = .ok (.invokestatic 88, 3) := by decide +kernel
theorem dX11_readsOn_105 : decode cX11_readsOn 105 = .ok (.ifCond .eq 16, 3) := by decide +kernel
theorem dX11_readsOn_108 : decode cX11_readsOn 108 = .ok (.aload_n 0, 1) := by decide +kernel
theorem dX11_readsOn_109 : decode cX11_readsOn 109 = .ok (.dup, 1) := by decide +kernel
theorem dX11_readsOn_11 : decode cX11_readsOn 11 = .ok (.aload_n 0, 1) := by decide +kernel
theorem dX11_readsOn_110 : decode cX11_readsOn 110 = .ok (.getfield 79, 3) := by decide +kernel
theorem dX11_readsOn_113 : decode cX11_readsOn 113 = .ok (.iconst 1, 1) := by decide +kernel
theorem dX11_readsOn_114 : decode cX11_readsOn 114 = .ok (.iadd, 1) := by decide +kernel
theorem dX11_readsOn_115 : decode cX11_readsOn 115 = .ok (.putfield 79, 3) := by decide +kernel
theorem dX11_readsOn_118 : decode cX11_readsOn 118 = .ok (.goto (-24), 3) := by decide +kernel
theorem dX11_readsOn_12 : decode cX11_readsOn 12 = .ok (.getfield 23, 3) := by decide +kernel
theorem dX11_readsOn_121 : decode cX11_readsOn 121 = .ok (.aload_n 0, 1) := by decide +kernel
theorem dX11_readsOn_122 : decode cX11_readsOn 122 = .ok (.iconst 1, 1) := by decide +kernel
theorem dX11_readsOn_123 : decode cX11_readsOn 123 = .ok (.putfield 85, 3) := by decide +kernel
theorem dX11_readsOn_126 : decode cX11_readsOn 126 = .ok (.goto 137, 3) := by decide +kernel
theorem dX11_readsOn_129 : decode cX11_readsOn 129 = .ok (.iload_n 1, 1) := by decide +kernel
theorem dX11_readsOn_130 : decode cX11_readsOn 130 = .ok (.invokestatic 96, 3) := by decide +kernel
theorem dX11_readsOn_133 : decode cX11_readsOn 133 = .ok (.ifCond .eq 104, 3) := by decide +kernel
theorem dX11_readsOn_136 : decode cX11_readsOn 136 = .ok (.aload_n 0, 1) := by decide +kernel
theorem dX11_readsOn_137 : decode cX11_readsOn 137 = .ok (.iconst 0, 1) := by decide +kernel
theorem dX11_readsOn_138 : decode cX11_readsOn 138 = .ok (.putfield 99, 3) := by decide +kernel
theorem dX11_readsOn_141 : decode cX11_readsOn 141 = .ok (.aload_n 0, 1) := by decide +kernel
theorem dX11_readsOn_142 : decode cX11_readsOn 142 = .ok (.aload_n 0, 1) := by decide +kernel
theorem dX11_readsOn_143 : decode cX11_readsOn 143 = .ok (.getfield 79, 3) := by decide +kernel
theorem dX11_readsOn_146 : decode cX11_readsOn 146 = .ok (.invokevirtual 92, 3) := by decide +kernel
theorem dX11_readsOn_149 : decode cX11_readsOn 149 = .ok (.invokestatic 96, 3) := by decide +kernel
theorem dX11_readsOn_15 : decode cX11_readsOn 15 = .ok (.aload_n 0, 1) := by decide +kernel
theorem dX11_readsOn_152 : decode cX11_readsOn 152 = .ok (.ifCond .eq 60, 3) := by decide +kernel
theorem dX11_readsOn_155 : decode cX11_readsOn 155 = .ok (.aload_n 0, 1) := by decide +kernel
theorem dX11_readsOn_156 : decode cX11_readsOn 156 = .ok (.aload_n 0, 1) := by decide +kernel
theorem dX11_readsOn_157 : decode cX11_readsOn 157 = .ok (.getfield 79, 3) := by decide +kernel
theorem dX11_readsOn_16 : decode cX11_readsOn 16 = .ok (.getfield 79, 3) := by decide +kernel
theorem dX11_readsOn_160 : decode cX11_readsOn 160 = .ok (.aload_n 0, 1) := by decide +kernel
theorem dX11_readsOn_161 : decode cX11_readsOn 161 = .ok (.getfield 82, 3) := by decide +kernel
theorem dX11_readsOn_164 : decode cX11_readsOn 164 = .ok (.isub, 1) := by decide +kernel
theorem dX11_readsOn_165 : decode cX11_readsOn 165 = .ok (.iconst 3, 1) := by decide +kernel
theorem dX11_readsOn_166 : decode cX11_readsOn 166 = .ok (.if_icmp .ge 26, 3) := by decide +kernel
theorem dX11_readsOn_169 : decode cX11_readsOn 169 = .ok (.bipush 10, 2) := by decide +kernel
theorem dX11_readsOn_171 : decode cX11_readsOn 171 = .ok (.aload_n 0, 1) := by decide +kernel
theorem dX11_readsOn_172 : decode cX11_readsOn 172 = .ok (.getfield 99, 3) := by decide +kernel
theorem dX11_readsOn_175 : decode cX11_readsOn 175 = .ok (.imul, 1) := by decide +kernel
theorem dX11_readsOn_176 : decode cX11_readsOn 176 = .ok (.aload_n 0, 1) := by decide +kernel
theorem dX11_readsOn_177 : decode cX11_readsOn 177 = .ok (.getfield 23, 3) := by decide +kernel
theorem dX11_readsOn_180 : decode cX11_readsOn 180 = .ok (.aload_n 0, 1) := by decide +kernel
theorem dX11_readsOn_181 : decode cX11_readsOn 181 = .ok (.getfield 79, 3) := by decide +kernel
theorem dX11_readsOn_184 : decode cX11_readsOn 184 = .ok (.iaload, 1) := by decide +kernel
theorem dX11_readsOn_185 : decode cX11_readsOn 185 = .ok (.iadd, 1) := by decide +kernel
theorem dX11_readsOn_186 : decode cX11_readsOn 186 = .ok (.bipush 48, 2) := by decide +kernel
theorem dX11_readsOn_188 : decode cX11_readsOn 188 = .ok (.isub, 1) := by decide +kernel
theorem dX11_readsOn_189 : decode cX11_readsOn 189 = .ok (.goto 7, 3) := by decide +kernel
theorem dX11_readsOn_19 : decode cX11_readsOn 19 = .ok (.iaload, 1) := by decide +kernel
theorem dX11_readsOn_192 : decode cX11_readsOn 192 = .ok (.aload_n 0, 1) := by decide +kernel
theorem dX11_readsOn_193 : decode cX11_readsOn 193 = .ok (.getfield 99, 3) := by decide +kernel
theorem dX11_readsOn_196 : decode cX11_readsOn 196 = .ok (.putfield 99, 3) := by decide +kernel
theorem dX11_readsOn_199 : decode cX11_readsOn 199 = .ok (.aload_n 0, 1) := by decide +kernel
theorem dX11_readsOn_20 : decode cX11_readsOn 20 = .ok (.bipush 32, 2) := by decide +kernel
theorem dX11_readsOn_200 : decode cX11_readsOn 200 = .ok (.dup, 1) := by decide +kernel
theorem dX11_readsOn_201 : decode cX11_readsOn 201 = .ok (.getfield 79, 3) := by decide +kernel
theorem dX11_readsOn_204 : decode cX11_readsOn 204 = .ok (.iconst 1, 1) := by decide +kernel
theorem dX11_readsOn_205 : decode cX11_readsOn 205 = .ok (.iadd, 1) := by decide +kernel
theorem dX11_readsOn_206 : decode cX11_readsOn 206 = .ok (.putfield 79, 3) := by decide +kernel
theorem dX11_readsOn_209 : decode cX11_readsOn 209 = .ok (.goto (-68), 3) := by decide +kernel
theorem dX11_readsOn_212 : decode cX11_readsOn 212 = .ok (.aload_n 0, 1) := by decide +kernel
theorem dX11_readsOn_213 : decode cX11_readsOn 213 = .ok (.aload_n 0, 1) := by decide +kernel
theorem dX11_readsOn_214 : decode cX11_readsOn 214 = .ok (.getfield 79, 3) := by decide +kernel
theorem dX11_readsOn_217 : decode cX11_readsOn 217 = .ok (.aload_n 0, 1) := by decide +kernel
theorem dX11_readsOn_218 : decode cX11_readsOn 218 = .ok (.getfield 82, 3) := by decide +kernel
theorem dX11_readsOn_22 : decode cX11_readsOn 22 = .ok (.if_icmp .eq 17, 3) := by decide +kernel
theorem dX11_readsOn_221 : decode cX11_readsOn 221 = .ok (.isub, 1) := by decide +kernel
theorem dX11_readsOn_222 : decode cX11_readsOn 222 = .ok (.iconst 3, 1) := by decide +kernel
theorem dX11_readsOn_223 : decode cX11_readsOn 223 = .ok (.if_icmp .le 7, 3) := by decide +kernel
theorem dX11_readsOn_226 : decode cX11_readsOn 226 = .ok (.iconst 3, 1) := by decide +kernel
theorem dX11_readsOn_227 : decode cX11_readsOn 227 = .ok (.goto 4, 3) := by decide +kernel
theorem dX11_readsOn_230 : decode cX11_readsOn 230 = .ok (.iconst 2, 1) := by decide +kernel
theorem dX11_readsOn_231 : decode cX11_readsOn 231 = .ok (.putfield 85, 3) := by decide +kernel
theorem dX11_readsOn_234 : decode cX11_readsOn 234 = .ok (.goto 29, 3) := by decide +kernel
theorem dX11_readsOn_237 : decode cX11_readsOn 237 = .ok (.aload_n 0, 1) := by decide +kernel
theorem dX11_readsOn_238 : decode cX11_readsOn 238 = .ok (.iload_n 1, 1) := by decide +kernel
theorem dX11_readsOn_239 : decode cX11_readsOn 239 = .ok (.invokestatic 102, 3) := by decide +kernel
theorem dX11_readsOn_242 : decode cX11_readsOn 242 = .ok (.ifCond .eq 7, 3) := by decide +kernel
theorem dX11_readsOn_245 : decode cX11_readsOn 245 = .ok (.iload_n 1, 1) := by decide +kernel
theorem dX11_readsOn_246 : decode cX11_readsOn 246 = .ok (.goto 4, 3) := by decide +kernel
theorem dX11_readsOn_249 : decode cX11_readsOn 249 = .ok (.iconst 3, 1) := by decide +kernel
theorem dX11_readsOn_25 : decode cX11_readsOn 25 = .ok (.aload_n 0, 1) := by decide +kernel
theorem dX11_readsOn_250 : decode cX11_readsOn 250 = .ok (.putfield 85, 3) := by decide +kernel
theorem dX11_readsOn_253 : decode cX11_readsOn 253 = .ok (.aload_n 0, 1) := by decide +kernel
theorem dX11_readsOn_254 : decode cX11_readsOn 254 = .ok (.dup, 1) := by decide +kernel
theorem dX11_readsOn_255 : decode cX11_readsOn 255 = .ok (.getfield 79, 3) := by decide +kernel
theorem dX11_readsOn_258 : decode cX11_readsOn 258 = .ok (.iconst 1, 1) := by decide +kernel
theorem dX11_readsOn_259 : decode cX11_readsOn 259 = .ok (.iadd, 1) := by decide +kernel
theorem dX11_readsOn_26 : decode cX11_readsOn 26 = .ok (.getfield 23, 3) := by decide +kernel
theorem dX11_readsOn_260 : decode cX11_readsOn 260 = .ok (.putfield 79, 3) := by decide +kernel
theorem dX11_readsOn_263 : decode cX11_readsOn 263 = .ok (.return_, 1) := by decide +kernel
theorem dX11_readsOn_29 : decode cX11_readsOn 29 = .ok (.aload_n 0, 1) := by decide +kernel
theorem dX11_readsOn_30 : decode cX11_readsOn 30 = .ok (.getfield 79, 3) := by decide +kernel
theorem dX11_readsOn_33 : decode cX11_readsOn 33 = .ok (.iaload, 1) := by decide +kernel
theorem dX11_readsOn_34 : decode cX11_readsOn 34 = .ok (.bipush 10, 2) := by decide +kernel
theorem dX11_readsOn_36 : decode cX11_readsOn 36 = .ok (.if_icmp .ne 16, 3) := by decide +kernel
theorem dX11_readsOn_39 : decode cX11_readsOn 39 = .ok (.aload_n 0, 1) := by decide +kernel
theorem dX11_readsOn_4 : decode cX11_readsOn 4 = .ok (.aload_n 0, 1) := by decide +kernel
theorem dX11_readsOn_40 : decode cX11_readsOn 40 = .ok (.dup, 1) := by decide +kernel
theorem dX11_readsOn_41 : decode cX11_readsOn 41 = .ok (.getfield 79, 3) := by decide +kernel
theorem dX11_readsOn_44 : decode cX11_readsOn 44 = .ok (.iconst 1, 1) := by decide +kernel
theorem dX11_readsOn_45 : decode cX11_readsOn 45 = .ok (.iadd, 1) := by decide +kernel
theorem dX11_readsOn_46 : decode cX11_readsOn 46 = .ok (.putfield 79, 3) := by decide +kernel
theorem dX11_readsOn_49 : decode cX11_readsOn 49 = .ok (.goto (-49), 3) := by decide +kernel
theorem dX11_readsOn_5 : decode cX11_readsOn 5 = .ok (.getfield 76, 3) := by decide +kernel
theorem dX11_readsOn_52 : decode cX11_readsOn 52 = .ok (.aload_n 0, 1) := by decide +kernel
theorem dX11_readsOn_53 : decode cX11_readsOn 53 = .ok (.aload_n 0, 1) := by decide +kernel
theorem dX11_readsOn_54 : decode cX11_readsOn 54 = .ok (.getfield 79, 3) := by decide +kernel
theorem dX11_readsOn_57 : decode cX11_readsOn 57 = .ok (.putfield 82, 3) := by decide +kernel
theorem dX11_readsOn_60 : decode cX11_readsOn 60 = .ok (.aload_n 0, 1) := by decide +kernel
theorem dX11_readsOn_61 : decode cX11_readsOn 61 = .ok (.getfield 79, 3) := by decide +kernel
theorem dX11_readsOn_64 : decode cX11_readsOn 64 = .ok (.aload_n 0, 1) := by decide +kernel
theorem dX11_readsOn_65 : decode cX11_readsOn 65 = .ok (.getfield 76, 3) := by decide +kernel
theorem dX11_readsOn_68 : decode cX11_readsOn 68 = .ok (.if_icmp .lt 9, 3) := by decide +kernel
theorem dX11_readsOn_71 : decode cX11_readsOn 71 = .ok (.aload_n 0, 1) := by decide +kernel
theorem dX11_readsOn_72 : decode cX11_readsOn 72 = .ok (.iconst 0, 1) := by decide +kernel
theorem dX11_readsOn_73 : decode cX11_readsOn 73 = .ok (.putfield 85, 3) := by decide +kernel
theorem dX11_readsOn_76 : decode cX11_readsOn 76 = .ok (.return_, 1) := by decide +kernel
theorem dX11_readsOn_77 : decode cX11_readsOn 77 = .ok (.aload_n 0, 1) := by decide +kernel
theorem dX11_readsOn_78 : decode cX11_readsOn 78 = .ok (.getfield 23, 3) := by decide +kernel
theorem dX11_readsOn_8 : decode cX11_readsOn 8 = .ok (.if_icmp .ge 44, 3) := by decide +kernel
theorem dX11_readsOn_81 : decode cX11_readsOn 81 = .ok (.aload_n 0, 1) := by decide +kernel
theorem dX11_readsOn_82 : decode cX11_readsOn 82 = .ok (.getfield 79, 3) := by decide +kernel
theorem dX11_readsOn_85 : decode cX11_readsOn 85 = .ok (.iaload, 1) := by decide +kernel
theorem dX11_readsOn_86 : decode cX11_readsOn 86 = .ok (.istore_n 1, 1) := by decide +kernel
theorem dX11_readsOn_87 : decode cX11_readsOn 87 = .ok (.iload_n 1, 1) := by decide +kernel
theorem dX11_readsOn_88 : decode cX11_readsOn 88 = .ok (.invokestatic 88, 3) := by decide +kernel
theorem dX11_readsOn_91 : decode cX11_readsOn 91 = .ok (.ifCond .eq 38, 3) := by decide +kernel
theorem dX11_readsOn_94 : decode cX11_readsOn 94 = .ok (.aload_n 0, 1) := by decide +kernel
theorem dX11_readsOn_95 : decode cX11_readsOn 95 = .ok (.aload_n 0, 1) := by decide +kernel
theorem dX11_readsOn_96 : decode cX11_readsOn 96 = .ok (.getfield 79, 3) := by decide +kernel
theorem dX11_readsOn_99 : decode cX11_readsOn 99 = .ok (.invokevirtual 92, 3) := by decide +kernel
theorem dX11_see_0 : decode cX11_see 0 = .ok (.iload_n 1, 1) := by decide +kernel
theorem dX11_see_1 : decode cX11_see 1 = .ok (.aload_n 0, 1) := by decide +kernel
theorem dX11_see_12 : decode cX11_see 12 = .ok (.iload_n 1, 1) := by decide +kernel
theorem dX11_see_13 : decode cX11_see 13 = .ok (.iaload, 1) := by decide +kernel
theorem dX11_see_14 : decode cX11_see 14 = .ok (.goto 4, 3) := by decide +kernel
theorem dX11_see_17 : decode cX11_see 17 = .ok (.iconst 0, 1) := by decide +kernel
theorem dX11_see_18 : decode cX11_see 18 = .ok (.ireturn, 1) := by decide +kernel
theorem dX11_see_2 : decode cX11_see 2 = .ok (.getfield 76, 3) := by decide +kernel
theorem dX11_see_5 : decode cX11_see 5 = .ok (.if_icmp .ge 12, 3) := by decide +kernel
theorem dX11_see_8 : decode cX11_see 8 = .ok (.aload_n 0, 1) := by decide +kernel
theorem dX11_see_9 : decode cX11_see 9 = .ok (.getfield 23, 3) := by decide +kernel
theorem dX11_size_0 : decode cX11_size 0 = .ok (.iconst 0, 1) := by decide +kernel
theorem dX11_size_1 : decode cX11_size 1 = .ok (.istore_n 1, 1) := by decide +kernel
theorem dX11_size_11 : decode cX11_size 11 = .ok (.iload_n 2, 1) := by decide +kernel
theorem dX11_size_12 : decode cX11_size 12 = .ok (.iload_n 2, 1) := by decide +kernel
theorem dX11_size_13 : decode cX11_size 13 = .ok (.iconst 1, 1) := by decide +kernel
theorem dX11_size_14 : decode cX11_size 14 = .ok (.isub, 1) := by decide +kernel
theorem dX11_size_15 : decode cX11_size 15 = .ok (.iand, 1) := by decide +kernel
theorem dX11_size_16 : decode cX11_size 16 = .ok (.istore_n 2, 1) := by decide +kernel
theorem dX11_size_17 : decode cX11_size 17 = .ok (.goto (-13), 3) := by decide +kernel
theorem dX11_size_2 : decode cX11_size 2 = .ok (.iload_n 0, 1) := by decide +kernel
theorem dX11_size_20 : decode cX11_size 20 = .ok (.iload_n 1, 1) := by decide +kernel
theorem dX11_size_21 : decode cX11_size 21 = .ok (.ireturn, 1) := by decide +kernel
theorem dX11_size_3 : decode cX11_size 3 = .ok (.istore_n 2, 1) := by decide +kernel
theorem dX11_size_4 : decode cX11_size 4 = .ok (.iload_n 2, 1) := by decide +kernel
theorem dX11_size_5 : decode cX11_size 5 = .ok (.ifCond .eq 15, 3) := by decide +kernel
theorem dX11_size_8 : decode cX11_size 8 = .ok (.iinc 1 1, 3) := by decide +kernel
theorem dX11_thing_0 : decode cX11_thing 0 = .ok (.aload_n 0, 1) := by decide +kernel
theorem dX11_thing_1 : decode cX11_thing 1 = .ok (.aload_n 0, 1) := by decide +kernel
theorem dX11_thing_10 : decode cX11_thing 10 = .ok (.iconst 1, 1) := by decide +kernel
theorem dX11_thing_100 : decode cX11_thing 100 = .ok (.aload_n 0, 1) := by decide +kernel
theorem dX11_thing_101 : decode cX11_thing 101 = .ok (.iload_n 1, 1) := by decide +kernel
theorem dX11_thing_102 : decode cX11_thing 102 = .ok (.iconst 0, 1) := by decide +kernel
theorem dX11_thing_103 : decode cX11_thing 103 = .ok (.invokevirtual 283, 3) := by decide +kernel
theorem dX11_thing_106 : decode cX11_thing 106 = .ok (.ifCond .eq 7, 3) := by decide +kernel
theorem dX11_thing_109 : decode cX11_thing 109 = .ok (.iconst (-1), 1) := by decide +kernel
theorem dX11_thing_11 : decode cX11_thing 11 = .ok (.goto 20, 3) := by decide +kernel
theorem dX11_thing_110 : decode cX11_thing 110 = .ok (.goto 12, 3) := by decide +kernel
theorem dX11_thing_113 : decode cX11_thing 113 = .ok (.aload_n 0, 1) := by decide +kernel
theorem dX11_thing_114 : decode cX11_thing 114 = .ok (.getfield 9, 3) := by decide +kernel
theorem dX11_thing_117 : decode cX11_thing 117 = .ok (.bipush 16, 2) := by decide +kernel
theorem dX11_thing_119 : decode cX11_thing 119 = .ok (.iload_n 1, 1) := by decide +kernel
theorem dX11_thing_120 : decode cX11_thing 120 = .ok (.iadd, 1) := by decide +kernel
theorem dX11_thing_121 : decode cX11_thing 121 = .ok (.iaload, 1) := by decide +kernel
theorem dX11_thing_122 : decode cX11_thing 122 = .ok (.ireturn, 1) := by decide +kernel
theorem dX11_thing_123 : decode cX11_thing 123 = .ok (.aload_n 0, 1) := by decide +kernel
theorem dX11_thing_124 : decode cX11_thing 124 = .ok (.iload_n 1, 1) := by decide +kernel
theorem dX11_thing_125 : decode cX11_thing 125 = .ok (.iconst 0, 1) := by decide +kernel
theorem dX11_thing_126 : decode cX11_thing 126 = .ok (.invokevirtual 283, 3) := by decide +kernel
theorem dX11_thing_129 : decode cX11_thing 129 = .ok (.ifCond .eq 7, 3) := by decide +kernel
theorem dX11_thing_132 : decode cX11_thing 132 = .ok (.iconst (-1), 1) := by decide +kernel
theorem dX11_thing_133 : decode cX11_thing 133 = .ok (.goto 12, 3) := by decide +kernel
theorem dX11_thing_136 : decode cX11_thing 136 = .ok (.aload_n 0, 1) := by decide +kernel
theorem dX11_thing_137 : decode cX11_thing 137 = .ok (.getfield 9, 3) := by decide +kernel
theorem dX11_thing_14 : decode cX11_thing 14 = .ok (.iload_n 2, 1) := by decide +kernel
theorem dX11_thing_140 : decode cX11_thing 140 = .ok (.bipush 24, 2) := by decide +kernel
theorem dX11_thing_142 : decode cX11_thing 142 = .ok (.iload_n 1, 1) := by decide +kernel
theorem dX11_thing_143 : decode cX11_thing 143 = .ok (.iadd, 1) := by decide +kernel
theorem dX11_thing_144 : decode cX11_thing 144 = .ok (.iaload, 1) := by decide +kernel
theorem dX11_thing_145 : decode cX11_thing 145 = .ok (.ireturn, 1) := by decide +kernel
theorem dX11_thing_146 : decode cX11_thing 146 = .ok (.aload_n 0, 1) := by decide +kernel
theorem dX11_thing_147 : decode cX11_thing 147 = .ok (.iload_n 1, 1) := by decide +kernel
theorem dX11_thing_148 : decode cX11_thing 148 = .ok (.iconst 0, 1) := by decide +kernel
theorem dX11_thing_149 : decode cX11_thing 149 = .ok (.invokevirtual 283, 3) := by decide +kernel
theorem dX11_thing_15 : decode cX11_thing 15 = .ok (.i2l, 1) := by decide +kernel
theorem dX11_thing_152 : decode cX11_thing 152 = .ok (.ifCond .eq 23, 3) := by decide +kernel
theorem dX11_thing_155 : decode cX11_thing 155 = .ok (.aload_n 0, 1) := by decide +kernel
theorem dX11_thing_156 : decode cX11_thing 156 = .ok (.getfield 9, 3) := by decide +kernel
theorem dX11_thing_159 : decode cX11_thing 159 = .ok (.bipush 40, 2) := by decide +kernel
theorem dX11_thing_16 : decode cX11_thing 16 = .ok (.lconst 0, 1) := by decide +kernel
theorem dX11_thing_161 : decode cX11_thing 161 = .ok (.iaload, 1) := by decide +kernel
theorem dX11_thing_162 : decode cX11_thing 162 = .ok (.aload_n 0, 1) := by decide +kernel
theorem dX11_thing_163 : decode cX11_thing 163 = .ok (.getfield 9, 3) := by decide +kernel
theorem dX11_thing_166 : decode cX11_thing 166 = .ok (.bipush 32, 2) := by decide +kernel
theorem dX11_thing_168 : decode cX11_thing 168 = .ok (.iload_n 1, 1) := by decide +kernel
theorem dX11_thing_169 : decode cX11_thing 169 = .ok (.iadd, 1) := by decide +kernel
theorem dX11_thing_17 : decode cX11_thing 17 = .ok (.ldc2_w 366, 3) := by decide +kernel
theorem dX11_thing_170 : decode cX11_thing 170 = .ok (.iaload, 1) := by decide +kernel
theorem dX11_thing_171 : decode cX11_thing 171 = .ok (.isub, 1) := by decide +kernel
theorem dX11_thing_172 : decode cX11_thing 172 = .ok (.goto 4, 3) := by decide +kernel
theorem dX11_thing_175 : decode cX11_thing 175 = .ok (.iconst (-1), 1) := by decide +kernel
theorem dX11_thing_176 : decode cX11_thing 176 = .ok (.ireturn, 1) := by decide +kernel
theorem dX11_thing_177 : decode cX11_thing 177 = .ok (.aload_n 0, 1) := by decide +kernel
theorem dX11_thing_178 : decode cX11_thing 178 = .ok (.iload_n 1, 1) := by decide +kernel
theorem dX11_thing_179 : decode cX11_thing 179 = .ok (.iconst 1, 1) := by decide +kernel
theorem dX11_thing_180 : decode cX11_thing 180 = .ok (.invokevirtual 283, 3) := by decide +kernel
theorem dX11_thing_183 : decode cX11_thing 183 = .ok (.ifCond .eq 23, 3) := by decide +kernel
theorem dX11_thing_186 : decode cX11_thing 186 = .ok (.aload_n 0, 1) := by decide +kernel
theorem dX11_thing_187 : decode cX11_thing 187 = .ok (.getfield 9, 3) := by decide +kernel
theorem dX11_thing_190 : decode cX11_thing 190 = .ok (.bipush 32, 2) := by decide +kernel
theorem dX11_thing_192 : decode cX11_thing 192 = .ok (.iload_n 1, 1) := by decide +kernel
theorem dX11_thing_193 : decode cX11_thing 193 = .ok (.iadd, 1) := by decide +kernel
theorem dX11_thing_194 : decode cX11_thing 194 = .ok (.iaload, 1) := by decide +kernel
theorem dX11_thing_195 : decode cX11_thing 195 = .ok (.aload_n 0, 1) := by decide +kernel
theorem dX11_thing_196 : decode cX11_thing 196 = .ok (.getfield 9, 3) := by decide +kernel
theorem dX11_thing_199 : decode cX11_thing 199 = .ok (.bipush 40, 2) := by decide +kernel
theorem dX11_thing_2 : decode cX11_thing 2 = .ok (.iload_n 1, 1) := by decide +kernel
theorem dX11_thing_20 : decode cX11_thing 20 = .ok (.invokestatic 131, 3) := by decide +kernel
theorem dX11_thing_201 : decode cX11_thing 201 = .ok (.iaload, 1) := by decide +kernel
theorem dX11_thing_202 : decode cX11_thing 202 = .ok (.isub, 1) := by decide +kernel
theorem dX11_thing_203 : decode cX11_thing 203 = .ok (.goto 4, 3) := by decide +kernel
theorem dX11_thing_206 : decode cX11_thing 206 = .ok (.iconst (-1), 1) := by decide +kernel
theorem dX11_thing_207 : decode cX11_thing 207 = .ok (.ireturn, 1) := by decide +kernel
theorem dX11_thing_23 : decode cX11_thing 23 = .ok (.ifCond .eq 7, 3) := by decide +kernel
theorem dX11_thing_26 : decode cX11_thing 26 = .ok (.iconst 0, 1) := by decide +kernel
theorem dX11_thing_27 : decode cX11_thing 27 = .ok (.goto 4, 3) := by decide +kernel
theorem dX11_thing_3 : decode cX11_thing 3 = .ok (.i2l, 1) := by decide +kernel
theorem dX11_thing_30 : decode cX11_thing 30 = .ok (.iconst 2, 1) := by decide +kernel
theorem dX11_thing_31 : decode cX11_thing 31 = .ok (.putfield 70, 3) := by decide +kernel
theorem dX11_thing_34 : decode cX11_thing 34 = .ok (.aload_n 0, 1) := by decide +kernel
theorem dX11_thing_35 : decode cX11_thing 35 = .ok (.getfield 70, 3) := by decide +kernel
theorem dX11_thing_38 : decode cX11_thing 38 = .ok (.ifCond .le 5, 3) := by decide +kernel
theorem dX11_thing_4 : decode cX11_thing 4 = .ok (.invokevirtual 363, 3) := by decide +kernel
theorem dX11_thing_41 : decode cX11_thing 41 = .ok (.iconst 0, 1) := by decide +kernel
theorem dX11_thing_42 : decode cX11_thing 42 = .ok (.ireturn, 1) := by decide +kernel
theorem dX11_thing_43 : decode cX11_thing 43 = .ok (.iload_n 2, 1) := by decide +kernel
theorem dX11_thing_44 : decode cX11_thing 44 = .ok (.tableswitch 133 0 4 #[36, 46, 56, 79, 102], 36) := by decide +kernel
theorem dX11_thing_7 : decode cX11_thing 7 = .ok (.ifCond .ne 7, 3) := by decide +kernel
theorem dX11_thing_80 : decode cX11_thing 80 = .ok (.aload_n 0, 1) := by decide +kernel
theorem dX11_thing_81 : decode cX11_thing 81 = .ok (.getfield 9, 3) := by decide +kernel
theorem dX11_thing_84 : decode cX11_thing 84 = .ok (.bipush 45, 2) := by decide +kernel
theorem dX11_thing_86 : decode cX11_thing 86 = .ok (.iload_n 1, 1) := by decide +kernel
theorem dX11_thing_87 : decode cX11_thing 87 = .ok (.iadd, 1) := by decide +kernel
theorem dX11_thing_88 : decode cX11_thing 88 = .ok (.iaload, 1) := by decide +kernel
theorem dX11_thing_89 : decode cX11_thing 89 = .ok (.ireturn, 1) := by decide +kernel
theorem dX11_thing_90 : decode cX11_thing 90 = .ok (.aload_n 0, 1) := by decide +kernel
theorem dX11_thing_91 : decode cX11_thing 91 = .ok (.getfield 9, 3) := by decide +kernel
theorem dX11_thing_94 : decode cX11_thing 94 = .ok (.bipush 8, 2) := by decide +kernel
theorem dX11_thing_96 : decode cX11_thing 96 = .ok (.iload_n 1, 1) := by decide +kernel
theorem dX11_thing_97 : decode cX11_thing 97 = .ok (.iadd, 1) := by decide +kernel
theorem dX11_thing_98 : decode cX11_thing 98 = .ok (.iaload, 1) := by decide +kernel
theorem dX11_thing_99 : decode cX11_thing 99 = .ok (.ireturn, 1) := by decide +kernel
theorem dX11_things_0 : decode cX11_things 0 = .ok (.aload_n 0, 1) := by decide +kernel
theorem dX11_things_1 : decode cX11_things 1 = .ok (.getfield 9, 3) := by decide +kernel
theorem dX11_things_4 : decode cX11_things 4 = .ok (.iconst 3, 1) := by decide +kernel
theorem dX11_things_5 : decode cX11_things 5 = .ok (.iaload, 1) := by decide +kernel
theorem dX11_things_6 : decode cX11_things 6 = .ok (.ireturn, 1) := by decide +kernel
theorem dX11_took_0 : decode cX11_took 0 = .ok (.aload_n 0, 1) := by decide +kernel
theorem dX11_took_1 : decode cX11_took 1 = .ok (.aload_n 1, 1) := by decide +kernel
theorem dX11_took_10 : decode cX11_took 10 = .ok (.aload_n 0, 1) := by decide +kernel
theorem dX11_took_11 : decode cX11_took 11 = .ok (.invokevirtual 124, 3) := by decide +kernel
theorem dX11_took_14 : decode cX11_took 14 = .ok (.iload_n 2, 1) := by decide +kernel
theorem dX11_took_15 : decode cX11_took 15 = .ok (.ireturn, 1) := by decide +kernel
theorem dX11_took_2 : decode cX11_took 2 = .ok (.invokevirtual 120, 3) := by decide +kernel
theorem dX11_took_5 : decode cX11_took 5 = .ok (.istore_n 2, 1) := by decide +kernel
theorem dX11_took_6 : decode cX11_took 6 = .ok (.iload_n 2, 1) := by decide +kernel
theorem dX11_took_7 : decode cX11_took 7 = .ok (.ifCond .eq 7, 3) := by decide +kernel
theorem dX11_trayFault_0 : decode cX11_trayFault 0 = .ok (.iload_n 1, 1) := by decide +kernel
theorem dX11_trayFault_1 : decode cX11_trayFault 1 = .ok (.invokestatic 405, 3) := by decide +kernel
theorem dX11_trayFault_11 : decode cX11_trayFault 11 = .ok (.aload_n 0, 1) := by decide +kernel
theorem dX11_trayFault_12 : decode cX11_trayFault 12 = .ok (.getfield 61, 3) := by decide +kernel
theorem dX11_trayFault_15 : decode cX11_trayFault 15 = .ok (.iload_n 1, 1) := by decide +kernel
theorem dX11_trayFault_16 : decode cX11_trayFault 16 = .ok (.iaload, 1) := by decide +kernel
theorem dX11_trayFault_17 : decode cX11_trayFault 17 = .ok (.iconst (-1), 1) := by decide +kernel
theorem dX11_trayFault_18 : decode cX11_trayFault 18 = .ok (.if_icmp .ne 7, 3) := by decide +kernel
theorem dX11_trayFault_21 : decode cX11_trayFault 21 = .ok (.iconst 2, 1) := by decide +kernel
theorem dX11_trayFault_22 : decode cX11_trayFault 22 = .ok (.goto 4, 3) := by decide +kernel
theorem dX11_trayFault_25 : decode cX11_trayFault 25 = .ok (.iconst 0, 1) := by decide +kernel
theorem dX11_trayFault_26 : decode cX11_trayFault 26 = .ok (.ireturn, 1) := by decide +kernel
theorem dX11_trayFault_4 : decode cX11_trayFault 4 = .ok (.ifCond .ne 7, 3) := by decide +kernel
theorem dX11_trayFault_7 : decode cX11_trayFault 7 = .ok (.iconst 1, 1) := by decide +kernel
theorem dX11_trayFault_8 : decode cX11_trayFault 8 = .ok (.goto 18, 3) := by decide +kernel
theorem dX11_tray_0 : decode cX11_tray 0 = .ok (.aload_n 0, 1) := by decide +kernel
theorem dX11_tray_1 : decode cX11_tray 1 = .ok (.iload_n 1, 1) := by decide +kernel
theorem dX11_tray_12 : decode cX11_tray 12 = .ok (.iload_n 2, 1) := by decide +kernel
theorem dX11_tray_13 : decode cX11_tray 13 = .ok (.i2l, 1) := by decide +kernel
theorem dX11_tray_14 : decode cX11_tray 14 = .ok (.lconst 0, 1) := by decide +kernel
theorem dX11_tray_15 : decode cX11_tray 15 = .ok (.ldc2_w 423, 3) := by decide +kernel
theorem dX11_tray_18 : decode cX11_tray 18 = .ok (.invokestatic 131, 3) := by decide +kernel
theorem dX11_tray_2 : decode cX11_tray 2 = .ok (.invokestatic 405, 3) := by decide +kernel
theorem dX11_tray_21 : decode cX11_tray 21 = .ok (.ifCond .eq 15, 3) := by decide +kernel
theorem dX11_tray_24 : decode cX11_tray 24 = .ok (.iload_n 3, 1) := by decide +kernel
theorem dX11_tray_25 : decode cX11_tray 25 = .ok (.i2l, 1) := by decide +kernel
theorem dX11_tray_26 : decode cX11_tray 26 = .ok (.lconst 0, 1) := by decide +kernel
theorem dX11_tray_27 : decode cX11_tray 27 = .ok (.ldc2_w 447, 3) := by decide +kernel
theorem dX11_tray_30 : decode cX11_tray 30 = .ok (.invokestatic 131, 3) := by decide +kernel
theorem dX11_tray_33 : decode cX11_tray 33 = .ok (.ifCond .ne 7, 3) := by decide +kernel
theorem dX11_tray_36 : decode cX11_tray 36 = .ok (.iconst 2, 1) := by decide +kernel
theorem dX11_tray_37 : decode cX11_tray 37 = .ok (.goto 4, 3) := by decide +kernel
theorem dX11_tray_40 : decode cX11_tray 40 = .ok (.iconst 0, 1) := by decide +kernel
theorem dX11_tray_41 : decode cX11_tray 41 = .ok (.putfield 70, 3) := by decide +kernel
theorem dX11_tray_44 : decode cX11_tray 44 = .ok (.aload_n 0, 1) := by decide +kernel
theorem dX11_tray_45 : decode cX11_tray 45 = .ok (.getfield 70, 3) := by decide +kernel
theorem dX11_tray_48 : decode cX11_tray 48 = .ok (.ifCond .le 4, 3) := by decide +kernel
theorem dX11_tray_5 : decode cX11_tray 5 = .ok (.ifCond .ne 7, 3) := by decide +kernel
theorem dX11_tray_51 : decode cX11_tray 51 = .ok (.return_, 1) := by decide +kernel
theorem dX11_tray_52 : decode cX11_tray 52 = .ok (.aload_n 0, 1) := by decide +kernel
theorem dX11_tray_53 : decode cX11_tray 53 = .ok (.getfield 61, 3) := by decide +kernel
theorem dX11_tray_56 : decode cX11_tray 56 = .ok (.iload_n 1, 1) := by decide +kernel
theorem dX11_tray_57 : decode cX11_tray 57 = .ok (.iload_n 2, 1) := by decide +kernel
theorem dX11_tray_58 : decode cX11_tray 58 = .ok (.iastore, 1) := by decide +kernel
theorem dX11_tray_59 : decode cX11_tray 59 = .ok (.aload_n 0, 1) := by decide +kernel
theorem dX11_tray_60 : decode cX11_tray 60 = .ok (.getfield 64, 3) := by decide +kernel
theorem dX11_tray_63 : decode cX11_tray 63 = .ok (.iload_n 1, 1) := by decide +kernel
theorem dX11_tray_64 : decode cX11_tray 64 = .ok (.iload_n 3, 1) := by decide +kernel
theorem dX11_tray_65 : decode cX11_tray 65 = .ok (.iastore, 1) := by decide +kernel
theorem dX11_tray_66 : decode cX11_tray 66 = .ok (.iconst 0, 1) := by decide +kernel
theorem dX11_tray_67 : decode cX11_tray 67 = .ok (.istore 4, 2) := by decide +kernel
theorem dX11_tray_69 : decode cX11_tray 69 = .ok (.iload 4, 2) := by decide +kernel
theorem dX11_tray_71 : decode cX11_tray 71 = .ok (.bipush 30, 2) := by decide +kernel
theorem dX11_tray_73 : decode cX11_tray 73 = .ok (.if_icmp .ge 22, 3) := by decide +kernel
theorem dX11_tray_76 : decode cX11_tray 76 = .ok (.aload_n 0, 1) := by decide +kernel
theorem dX11_tray_77 : decode cX11_tray 77 = .ok (.getfield 67, 3) := by decide +kernel
theorem dX11_tray_8 : decode cX11_tray 8 = .ok (.iconst 1, 1) := by decide +kernel
theorem dX11_tray_80 : decode cX11_tray 80 = .ok (.bipush 30, 2) := by decide +kernel
theorem dX11_tray_82 : decode cX11_tray 82 = .ok (.iload_n 1, 1) := by decide +kernel
theorem dX11_tray_83 : decode cX11_tray 83 = .ok (.imul, 1) := by decide +kernel
theorem dX11_tray_84 : decode cX11_tray 84 = .ok (.iload 4, 2) := by decide +kernel
theorem dX11_tray_86 : decode cX11_tray 86 = .ok (.iadd, 1) := by decide +kernel
theorem dX11_tray_87 : decode cX11_tray 87 = .ok (.lconst 0, 1) := by decide +kernel
theorem dX11_tray_88 : decode cX11_tray 88 = .ok (.lastore, 1) := by decide +kernel
theorem dX11_tray_89 : decode cX11_tray 89 = .ok (.iinc 4 1, 3) := by decide +kernel
theorem dX11_tray_9 : decode cX11_tray 9 = .ok (.goto 32, 3) := by decide +kernel
theorem dX11_tray_92 : decode cX11_tray 92 = .ok (.goto (-23), 3) := by decide +kernel
theorem dX11_tray_95 : decode cX11_tray 95 = .ok (.return_, 1) := by decide +kernel
theorem dX11_undo_0 : decode cX11_undo 0 = .ok (.aload_n 0, 1) := by decide +kernel
theorem dX11_undo_1 : decode cX11_undo 1 = .ok (.iconst 0, 1) := by decide +kernel
theorem dX11_undo_11 : decode cX11_undo 11 = .ok (.invokestatic 131, 3) := by decide +kernel
theorem dX11_undo_14 : decode cX11_undo 14 = .ok (.ifCond .eq 14, 3) := by decide +kernel
theorem dX11_undo_17 : decode cX11_undo 17 = .ok (.iload_n 1, 1) := by decide +kernel
theorem dX11_undo_18 : decode cX11_undo 18 = .ok (.aload_n 0, 1) := by decide +kernel
theorem dX11_undo_19 : decode cX11_undo 19 = .ok (.getfield 9, 3) := by decide +kernel
theorem dX11_undo_2 : decode cX11_undo 2 = .ok (.putfield 70, 3) := by decide +kernel
theorem dX11_undo_22 : decode cX11_undo 22 = .ok (.bipush 7, 2) := by decide +kernel
theorem dX11_undo_24 : decode cX11_undo 24 = .ok (.iaload, 1) := by decide +kernel
theorem dX11_undo_25 : decode cX11_undo 25 = .ok (.if_icmp .le 9, 3) := by decide +kernel
theorem dX11_undo_28 : decode cX11_undo 28 = .ok (.aload_n 0, 1) := by decide +kernel
theorem dX11_undo_29 : decode cX11_undo 29 = .ok (.iconst 1, 1) := by decide +kernel
theorem dX11_undo_30 : decode cX11_undo 30 = .ok (.invokevirtual 269, 3) := by decide +kernel
theorem dX11_undo_33 : decode cX11_undo 33 = .ok (.ireturn, 1) := by decide +kernel
theorem dX11_undo_34 : decode cX11_undo 34 = .ok (.aload_n 0, 1) := by decide +kernel
theorem dX11_undo_35 : decode cX11_undo 35 = .ok (.getfield 9, 3) := by decide +kernel
theorem dX11_undo_38 : decode cX11_undo 38 = .ok (.bipush 7, 2) := by decide +kernel
theorem dX11_undo_40 : decode cX11_undo 40 = .ok (.dup2, 1) := by decide +kernel
theorem dX11_undo_41 : decode cX11_undo 41 = .ok (.iaload, 1) := by decide +kernel
theorem dX11_undo_42 : decode cX11_undo 42 = .ok (.iload_n 1, 1) := by decide +kernel
theorem dX11_undo_43 : decode cX11_undo 43 = .ok (.isub, 1) := by decide +kernel
theorem dX11_undo_44 : decode cX11_undo 44 = .ok (.iastore, 1) := by decide +kernel
theorem dX11_undo_45 : decode cX11_undo 45 = .ok (.iconst 0, 1) := by decide +kernel
theorem dX11_undo_46 : decode cX11_undo 46 = .ok (.istore_n 2, 1) := by decide +kernel
theorem dX11_undo_47 : decode cX11_undo 47 = .ok (.iload_n 2, 1) := by decide +kernel
theorem dX11_undo_48 : decode cX11_undo 48 = .ok (.bipush 37, 2) := by decide +kernel
theorem dX11_undo_5 : decode cX11_undo 5 = .ok (.iload_n 1, 1) := by decide +kernel
theorem dX11_undo_50 : decode cX11_undo 50 = .ok (.if_icmp .ge 38, 3) := by decide +kernel
theorem dX11_undo_53 : decode cX11_undo 53 = .ok (.aload_n 0, 1) := by decide +kernel
theorem dX11_undo_54 : decode cX11_undo 54 = .ok (.getfield 9, 3) := by decide +kernel
theorem dX11_undo_57 : decode cX11_undo 57 = .ok (.bipush 8, 2) := by decide +kernel
theorem dX11_undo_59 : decode cX11_undo 59 = .ok (.iload_n 2, 1) := by decide +kernel
theorem dX11_undo_6 : decode cX11_undo 6 = .ok (.i2l, 1) := by decide +kernel
theorem dX11_undo_60 : decode cX11_undo 60 = .ok (.iadd, 1) := by decide +kernel
theorem dX11_undo_61 : decode cX11_undo 61 = .ok (.aload_n 0, 1) := by decide +kernel
theorem dX11_undo_62 : decode cX11_undo 62 = .ok (.getfield 9, 3) := by decide +kernel
theorem dX11_undo_65 : decode cX11_undo 65 = .ok (.bipush 89, 2) := by decide +kernel
theorem dX11_undo_67 : decode cX11_undo 67 = .ok (.bipush 37, 2) := by decide +kernel
theorem dX11_undo_69 : decode cX11_undo 69 = .ok (.aload_n 0, 1) := by decide +kernel
theorem dX11_undo_7 : decode cX11_undo 7 = .ok (.lconst 1, 1) := by decide +kernel
theorem dX11_undo_70 : decode cX11_undo 70 = .ok (.getfield 9, 3) := by decide +kernel
theorem dX11_undo_73 : decode cX11_undo 73 = .ok (.bipush 7, 2) := by decide +kernel
theorem dX11_undo_75 : decode cX11_undo 75 = .ok (.iaload, 1) := by decide +kernel
theorem dX11_undo_76 : decode cX11_undo 76 = .ok (.imul, 1) := by decide +kernel
theorem dX11_undo_77 : decode cX11_undo 77 = .ok (.iadd, 1) := by decide +kernel
theorem dX11_undo_78 : decode cX11_undo 78 = .ok (.iload_n 2, 1) := by decide +kernel
theorem dX11_undo_79 : decode cX11_undo 79 = .ok (.iadd, 1) := by decide +kernel
theorem dX11_undo_8 : decode cX11_undo 8 = .ok (.ldc2_w 403, 3) := by decide +kernel
theorem dX11_undo_80 : decode cX11_undo 80 = .ok (.iaload, 1) := by decide +kernel
theorem dX11_undo_81 : decode cX11_undo 81 = .ok (.iastore, 1) := by decide +kernel
theorem dX11_undo_82 : decode cX11_undo 82 = .ok (.iinc 2 1, 3) := by decide +kernel
theorem dX11_undo_85 : decode cX11_undo 85 = .ok (.goto (-38), 3) := by decide +kernel
theorem dX11_undo_88 : decode cX11_undo 88 = .ok (.aload_n 0, 1) := by decide +kernel
theorem dX11_undo_89 : decode cX11_undo 89 = .ok (.getfield 9, 3) := by decide +kernel
theorem dX11_undo_92 : decode cX11_undo 92 = .ok (.bipush 7, 2) := by decide +kernel
theorem dX11_undo_94 : decode cX11_undo 94 = .ok (.iaload, 1) := by decide +kernel
theorem dX11_undo_95 : decode cX11_undo 95 = .ok (.ireturn, 1) := by decide +kernel
theorem dX11_whyTake_0 : decode cX11_whyTake 0 = .ok (.aload_n 0, 1) := by decide +kernel
theorem dX11_whyTake_1 : decode cX11_whyTake 1 = .ok (.lload_n 1, 1) := by decide +kernel
theorem dX11_whyTake_10 : decode cX11_whyTake 10 = .ok (.lload_n 1, 1) := by decide +kernel
theorem dX11_whyTake_11 : decode cX11_whyTake 11 = .ok (.l2i, 1) := by decide +kernel
theorem dX11_whyTake_12 : decode cX11_whyTake 12 = .ok (.istore_n 3, 1) := by decide +kernel
theorem dX11_whyTake_13 : decode cX11_whyTake 13 = .ok (.aload_n 0, 1) := by decide +kernel
theorem dX11_whyTake_14 : decode cX11_whyTake 14 = .ok (.iload_n 3, 1) := by decide +kernel
theorem dX11_whyTake_15 : decode cX11_whyTake 15 = .ok (.iconst 0, 1) := by decide +kernel
theorem dX11_whyTake_16 : decode cX11_whyTake 16 = .ok (.invokevirtual 283, 3) := by decide +kernel
theorem dX11_whyTake_19 : decode cX11_whyTake 19 = .ok (.ifCond .eq 5, 3) := by decide +kernel
theorem dX11_whyTake_2 : decode cX11_whyTake 2 = .ok (.invokevirtual 363, 3) := by decide +kernel
theorem dX11_whyTake_22 : decode cX11_whyTake 22 = .ok (.iconst 2, 1) := by decide +kernel
theorem dX11_whyTake_23 : decode cX11_whyTake 23 = .ok (.ireturn, 1) := by decide +kernel
theorem dX11_whyTake_24 : decode cX11_whyTake 24 = .ok (.aload_n 0, 1) := by decide +kernel
theorem dX11_whyTake_25 : decode cX11_whyTake 25 = .ok (.iload_n 3, 1) := by decide +kernel
theorem dX11_whyTake_26 : decode cX11_whyTake 26 = .ok (.iconst 2, 1) := by decide +kernel
theorem dX11_whyTake_27 : decode cX11_whyTake 27 = .ok (.invokevirtual 283, 3) := by decide +kernel
theorem dX11_whyTake_30 : decode cX11_whyTake 30 = .ok (.ifCond .eq 34, 3) := by decide +kernel
theorem dX11_whyTake_33 : decode cX11_whyTake 33 = .ok (.aload_n 0, 1) := by decide +kernel
theorem dX11_whyTake_34 : decode cX11_whyTake 34 = .ok (.getfield 9, 3) := by decide +kernel
theorem dX11_whyTake_37 : decode cX11_whyTake 37 = .ok (.bipush 24, 2) := by decide +kernel
theorem dX11_whyTake_39 : decode cX11_whyTake 39 = .ok (.iload_n 3, 1) := by decide +kernel
theorem dX11_whyTake_40 : decode cX11_whyTake 40 = .ok (.iadd, 1) := by decide +kernel
theorem dX11_whyTake_41 : decode cX11_whyTake 41 = .ok (.iaload, 1) := by decide +kernel
theorem dX11_whyTake_42 : decode cX11_whyTake 42 = .ok (.aload_n 0, 1) := by decide +kernel
theorem dX11_whyTake_43 : decode cX11_whyTake 43 = .ok (.aload_n 0, 1) := by decide +kernel
theorem dX11_whyTake_44 : decode cX11_whyTake 44 = .ok (.getfield 9, 3) := by decide +kernel
theorem dX11_whyTake_47 : decode cX11_whyTake 47 = .ok (.bipush 16, 2) := by decide +kernel
theorem dX11_whyTake_49 : decode cX11_whyTake 49 = .ok (.iload_n 3, 1) := by decide +kernel
theorem dX11_whyTake_5 : decode cX11_whyTake 5 = .ok (.ifCond .ne 5, 3) := by decide +kernel
theorem dX11_whyTake_50 : decode cX11_whyTake 50 = .ok (.iadd, 1) := by decide +kernel
theorem dX11_whyTake_51 : decode cX11_whyTake 51 = .ok (.iaload, 1) := by decide +kernel
theorem dX11_whyTake_52 : decode cX11_whyTake 52 = .ok (.invokevirtual 311, 3) := by decide +kernel
theorem dX11_whyTake_55 : decode cX11_whyTake 55 = .ok (.iconst 1, 1) := by decide +kernel
theorem dX11_whyTake_56 : decode cX11_whyTake 56 = .ok (.isub, 1) := by decide +kernel
theorem dX11_whyTake_57 : decode cX11_whyTake 57 = .ok (.if_icmp .ge 7, 3) := by decide +kernel
theorem dX11_whyTake_60 : decode cX11_whyTake 60 = .ok (.iconst 3, 1) := by decide +kernel
theorem dX11_whyTake_61 : decode cX11_whyTake 61 = .ok (.goto 4, 3) := by decide +kernel
theorem dX11_whyTake_64 : decode cX11_whyTake 64 = .ok (.iconst 0, 1) := by decide +kernel
theorem dX11_whyTake_65 : decode cX11_whyTake 65 = .ok (.ireturn, 1) := by decide +kernel
theorem dX11_whyTake_8 : decode cX11_whyTake 8 = .ok (.iconst 1, 1) := by decide +kernel
theorem dX11_whyTake_9 : decode cX11_whyTake 9 = .ok (.ireturn, 1) := by decide +kernel
theorem dX11_within_0 : decode cX11_within 0 = .ok (.lload_n 0, 1) := by decide +kernel
theorem dX11_within_1 : decode cX11_within 1 = .ok (.lload_n 2, 1) := by decide +kernel
theorem dX11_within_10 : decode cX11_within 10 = .ok (.ifCond .gt 7, 3) := by decide +kernel
theorem dX11_within_13 : decode cX11_within 13 = .ok (.iconst 1, 1) := by decide +kernel
theorem dX11_within_14 : decode cX11_within 14 = .ok (.goto 4, 3) := by decide +kernel
theorem dX11_within_17 : decode cX11_within 17 = .ok (.iconst 0, 1) := by decide +kernel
theorem dX11_within_18 : decode cX11_within 18 = .ok (.ireturn, 1) := by decide +kernel
theorem dX11_within_2 : decode cX11_within 2 = .ok (.lcmp, 1) := by decide +kernel
theorem dX11_within_3 : decode cX11_within 3 = .ok (.ifCond .lt 14, 3) := by decide +kernel
theorem dX11_within_6 : decode cX11_within 6 = .ok (.lload_n 0, 1) := by decide +kernel
theorem dX11_within_7 : decode cX11_within 7 = .ok (.lload 4, 2) := by decide +kernel
theorem dX11_within_9 : decode cX11_within 9 = .ok (.lcmp, 1) := by decide +kernel
theorem dX11_write_0 : decode cX11_write 0 = .ok (.aload_n 0, 1) := by decide +kernel
theorem dX11_write_1 : decode cX11_write 1 = .ok (.aload_n 0, 1) := by decide +kernel
theorem dX11_write_10 : decode cX11_write 10 = .ok (.getfield 70, 3) := by decide +kernel
theorem dX11_write_13 : decode cX11_write 13 = .ok (.ifCond .le 5, 3) := by decide +kernel
theorem dX11_write_16 : decode cX11_write 16 = .ok (.lconst 0, 1) := by decide +kernel
theorem dX11_write_17 : decode cX11_write 17 = .ok (.lreturn, 1) := by decide +kernel
theorem dX11_write_18 : decode cX11_write 18 = .ok (.iload_n 2, 1) := by decide +kernel
theorem dX11_write_19 : decode cX11_write 19 = .ok (.i2l, 1) := by decide +kernel
theorem dX11_write_2 : decode cX11_write 2 = .ok (.iload_n 1, 1) := by decide +kernel
theorem dX11_write_20 : decode cX11_write 20 = .ok (.lconst 0, 1) := by decide +kernel
theorem dX11_write_21 : decode cX11_write 21 = .ok (.aload_n 0, 1) := by decide +kernel
theorem dX11_write_22 : decode cX11_write 22 = .ok (.getfield 64, 3) := by decide +kernel
theorem dX11_write_25 : decode cX11_write 25 = .ok (.iload_n 1, 1) := by decide +kernel
theorem dX11_write_26 : decode cX11_write 26 = .ok (.iaload, 1) := by decide +kernel
theorem dX11_write_27 : decode cX11_write 27 = .ok (.iconst 1, 1) := by decide +kernel
theorem dX11_write_28 : decode cX11_write 28 = .ok (.isub, 1) := by decide +kernel
theorem dX11_write_29 : decode cX11_write 29 = .ok (.i2l, 1) := by decide +kernel
theorem dX11_write_3 : decode cX11_write 3 = .ok (.invokevirtual 420, 3) := by decide +kernel
theorem dX11_write_30 : decode cX11_write 30 = .ok (.invokestatic 131, 3) := by decide +kernel
theorem dX11_write_33 : decode cX11_write 33 = .ok (.ifCond .eq 13, 3) := by decide +kernel
theorem dX11_write_36 : decode cX11_write 36 = .ok (.aload_n 0, 1) := by decide +kernel
theorem dX11_write_37 : decode cX11_write 37 = .ok (.iload_n 1, 1) := by decide +kernel
theorem dX11_write_38 : decode cX11_write 38 = .ok (.iload_n 2, 1) := by decide +kernel
theorem dX11_write_39 : decode cX11_write 39 = .ok (.lload_n 3, 1) := by decide +kernel
theorem dX11_write_40 : decode cX11_write 40 = .ok (.invokevirtual 527, 3) := by decide +kernel
theorem dX11_write_43 : decode cX11_write 43 = .ok (.goto 9, 3) := by decide +kernel
theorem dX11_write_46 : decode cX11_write 46 = .ok (.aload_n 0, 1) := by decide +kernel
theorem dX11_write_47 : decode cX11_write 47 = .ok (.iconst 3, 1) := by decide +kernel
theorem dX11_write_48 : decode cX11_write 48 = .ok (.invokevirtual 269, 3) := by decide +kernel
theorem dX11_write_51 : decode cX11_write 51 = .ok (.i2l, 1) := by decide +kernel
theorem dX11_write_52 : decode cX11_write 52 = .ok (.lreturn, 1) := by decide +kernel
theorem dX11_write_6 : decode cX11_write 6 = .ok (.putfield 70, 3) := by decide +kernel
theorem dX11_write_9 : decode cX11_write 9 = .ok (.aload_n 0, 1) := by decide +kernel
