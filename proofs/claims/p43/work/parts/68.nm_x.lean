theorem dX11_lawOf_0 : decode cX11_lawOf 0 = .ok (.iconst 0, 1) := by decide +kernel
theorem dX11_lawOf_1 : decode cX11_lawOf 1 = .ok (.istore_n 3, 1) := by decide +kernel
theorem dX11_lawOf_101 : decode cX11_lawOf 101 = .ok (.iinc 3 (-1), 3) := by decide +kernel
theorem dX11_lawOf_104 : decode cX11_lawOf 104 = .ok (.aload_n 0, 1) := by decide +kernel
theorem dX11_lawOf_105 : decode cX11_lawOf 105 = .ok (.getfield 30, 3) := by decide +kernel
theorem dX11_lawOf_108 : decode cX11_lawOf 108 = .ok (.iload_n 3, 1) := by decide +kernel
theorem dX11_lawOf_109 : decode cX11_lawOf 109 = .ok (.iconst 1, 1) := by decide +kernel
theorem dX11_lawOf_11 : decode cX11_lawOf 11 = .ok (.iload_n 1, 1) := by decide +kernel
theorem dX11_lawOf_110 : decode cX11_lawOf 110 = .ok (.isub, 1) := by decide +kernel
theorem dX11_lawOf_111 : decode cX11_lawOf 111 = .ok (.iload 5, 2) := by decide +kernel
theorem dX11_lawOf_113 : decode cX11_lawOf 113 = .ok (.aload_n 0, 1) := by decide +kernel
theorem dX11_lawOf_114 : decode cX11_lawOf 114 = .ok (.getfield 30, 3) := by decide +kernel
theorem dX11_lawOf_117 : decode cX11_lawOf 117 = .ok (.iload_n 3, 1) := by decide +kernel
theorem dX11_lawOf_118 : decode cX11_lawOf 118 = .ok (.iconst 1, 1) := by decide +kernel
theorem dX11_lawOf_119 : decode cX11_lawOf 119 = .ok (.isub, 1) := by decide +kernel
theorem dX11_lawOf_12 : decode cX11_lawOf 12 = .ok (.iaload, 1) := by decide +kernel
theorem dX11_lawOf_120 : decode cX11_lawOf 120 = .ok (.iaload, 1) := by decide +kernel
theorem dX11_lawOf_121 : decode cX11_lawOf 121 = .ok (.i2l, 1) := by decide +kernel
theorem dX11_lawOf_122 : decode cX11_lawOf 122 = .ok (.aload_n 0, 1) := by decide +kernel
theorem dX11_lawOf_123 : decode cX11_lawOf 123 = .ok (.getfield 30, 3) := by decide +kernel
theorem dX11_lawOf_126 : decode cX11_lawOf 126 = .ok (.iload_n 3, 1) := by decide +kernel
theorem dX11_lawOf_127 : decode cX11_lawOf 127 = .ok (.iaload, 1) := by decide +kernel
theorem dX11_lawOf_128 : decode cX11_lawOf 128 = .ok (.i2l, 1) := by decide +kernel
theorem dX11_lawOf_129 : decode cX11_lawOf 129 = .ok (.invokestatic 307, 3) := by decide +kernel
theorem dX11_lawOf_13 : decode cX11_lawOf 13 = .ok (.if_icmp .ge 126, 3) := by decide +kernel
theorem dX11_lawOf_132 : decode cX11_lawOf 132 = .ok (.iastore, 1) := by decide +kernel
theorem dX11_lawOf_133 : decode cX11_lawOf 133 = .ok (.iinc 4 1, 3) := by decide +kernel
theorem dX11_lawOf_136 : decode cX11_lawOf 136 = .ok (.goto (-131), 3) := by decide +kernel
theorem dX11_lawOf_139 : decode cX11_lawOf 139 = .ok (.aload_n 0, 1) := by decide +kernel
theorem dX11_lawOf_140 : decode cX11_lawOf 140 = .ok (.getfield 30, 3) := by decide +kernel
theorem dX11_lawOf_143 : decode cX11_lawOf 143 = .ok (.iconst 0, 1) := by decide +kernel
theorem dX11_lawOf_144 : decode cX11_lawOf 144 = .ok (.iaload, 1) := by decide +kernel
theorem dX11_lawOf_145 : decode cX11_lawOf 145 = .ok (.ireturn, 1) := by decide +kernel
theorem dX11_lawOf_16 : decode cX11_lawOf 16 = .ok (.aload_n 0, 1) := by decide +kernel
theorem dX11_lawOf_17 : decode cX11_lawOf 17 = .ok (.getfield 9, 3) := by decide +kernel
theorem dX11_lawOf_2 : decode cX11_lawOf 2 = .ok (.iconst 0, 1) := by decide +kernel
theorem dX11_lawOf_20 : decode cX11_lawOf 20 = .ok (.iload_n 2, 1) := by decide +kernel
theorem dX11_lawOf_21 : decode cX11_lawOf 21 = .ok (.iload 4, 2) := by decide +kernel
theorem dX11_lawOf_23 : decode cX11_lawOf 23 = .ok (.iadd, 1) := by decide +kernel
theorem dX11_lawOf_24 : decode cX11_lawOf 24 = .ok (.iaload, 1) := by decide +kernel
theorem dX11_lawOf_25 : decode cX11_lawOf 25 = .ok (.istore 5, 2) := by decide +kernel
theorem dX11_lawOf_27 : decode cX11_lawOf 27 = .ok (.iload 5, 2) := by decide +kernel
theorem dX11_lawOf_29 : decode cX11_lawOf 29 = .ok (.bipush 100, 2) := by decide +kernel
theorem dX11_lawOf_3 : decode cX11_lawOf 3 = .ok (.istore 4, 2) := by decide +kernel
theorem dX11_lawOf_31 : decode cX11_lawOf 31 = .ok (.if_icmp .lt 42, 3) := by decide +kernel
theorem dX11_lawOf_34 : decode cX11_lawOf 34 = .ok (.aload_n 0, 1) := by decide +kernel
theorem dX11_lawOf_35 : decode cX11_lawOf 35 = .ok (.getfield 30, 3) := by decide +kernel
theorem dX11_lawOf_38 : decode cX11_lawOf 38 = .ok (.iload_n 3, 1) := by decide +kernel
theorem dX11_lawOf_39 : decode cX11_lawOf 39 = .ok (.iload 5, 2) := by decide +kernel
theorem dX11_lawOf_41 : decode cX11_lawOf 41 = .ok (.sipush 1000, 3) := by decide +kernel
theorem dX11_lawOf_44 : decode cX11_lawOf 44 = .ok (.if_icmp .lt 12, 3) := by decide +kernel
theorem dX11_lawOf_47 : decode cX11_lawOf 47 = .ok (.iload 5, 2) := by decide +kernel
theorem dX11_lawOf_49 : decode cX11_lawOf 49 = .ok (.sipush 1000, 3) := by decide +kernel
theorem dX11_lawOf_5 : decode cX11_lawOf 5 = .ok (.iload 4, 2) := by decide +kernel
theorem dX11_lawOf_52 : decode cX11_lawOf 52 = .ok (.isub, 1) := by decide +kernel
theorem dX11_lawOf_53 : decode cX11_lawOf 53 = .ok (.goto 13, 3) := by decide +kernel
theorem dX11_lawOf_56 : decode cX11_lawOf 56 = .ok (.aload_n 0, 1) := by decide +kernel
theorem dX11_lawOf_57 : decode cX11_lawOf 57 = .ok (.getfield 33, 3) := by decide +kernel
theorem dX11_lawOf_60 : decode cX11_lawOf 60 = .ok (.iload 5, 2) := by decide +kernel
theorem dX11_lawOf_62 : decode cX11_lawOf 62 = .ok (.bipush 100, 2) := by decide +kernel
theorem dX11_lawOf_64 : decode cX11_lawOf 64 = .ok (.isub, 1) := by decide +kernel
theorem dX11_lawOf_65 : decode cX11_lawOf 65 = .ok (.iaload, 1) := by decide +kernel
theorem dX11_lawOf_66 : decode cX11_lawOf 66 = .ok (.iastore, 1) := by decide +kernel
theorem dX11_lawOf_67 : decode cX11_lawOf 67 = .ok (.iinc 3 1, 3) := by decide +kernel
theorem dX11_lawOf_7 : decode cX11_lawOf 7 = .ok (.aload_n 0, 1) := by decide +kernel
theorem dX11_lawOf_70 : decode cX11_lawOf 70 = .ok (.goto 63, 3) := by decide +kernel
theorem dX11_lawOf_73 : decode cX11_lawOf 73 = .ok (.iload 5, 2) := by decide +kernel
theorem dX11_lawOf_75 : decode cX11_lawOf 75 = .ok (.bipush 18, 2) := by decide +kernel
theorem dX11_lawOf_77 : decode cX11_lawOf 77 = .ok (.if_icmp .ne 24, 3) := by decide +kernel
theorem dX11_lawOf_8 : decode cX11_lawOf 8 = .ok (.getfield 9, 3) := by decide +kernel
theorem dX11_lawOf_80 : decode cX11_lawOf 80 = .ok (.aload_n 0, 1) := by decide +kernel
theorem dX11_lawOf_81 : decode cX11_lawOf 81 = .ok (.getfield 30, 3) := by decide +kernel
theorem dX11_lawOf_84 : decode cX11_lawOf 84 = .ok (.iload_n 3, 1) := by decide +kernel
theorem dX11_lawOf_85 : decode cX11_lawOf 85 = .ok (.iconst 1, 1) := by decide +kernel
theorem dX11_lawOf_86 : decode cX11_lawOf 86 = .ok (.isub, 1) := by decide +kernel
theorem dX11_lawOf_87 : decode cX11_lawOf 87 = .ok (.iconst 1, 1) := by decide +kernel
theorem dX11_lawOf_88 : decode cX11_lawOf 88 = .ok (.aload_n 0, 1) := by decide +kernel
theorem dX11_lawOf_89 : decode cX11_lawOf 89 = .ok (.getfield 30, 3) := by decide +kernel
theorem dX11_lawOf_92 : decode cX11_lawOf 92 = .ok (.iload_n 3, 1) := by decide +kernel
theorem dX11_lawOf_93 : decode cX11_lawOf 93 = .ok (.iconst 1, 1) := by decide +kernel
theorem dX11_lawOf_94 : decode cX11_lawOf 94 = .ok (.isub, 1) := by decide +kernel
theorem dX11_lawOf_95 : decode cX11_lawOf 95 = .ok (.iaload, 1) := by decide +kernel
theorem dX11_lawOf_96 : decode cX11_lawOf 96 = .ok (.isub, 1) := by decide +kernel
theorem dX11_lawOf_97 : decode cX11_lawOf 97 = .ok (.iastore, 1) := by decide +kernel
theorem dX11_lawOf_98 : decode cX11_lawOf 98 = .ok (.goto 35, 3) := by decide +kernel
theorem dX11_take_0 : decode cX11_take 0 = .ok (.aload_n 0, 1) := by decide +kernel
theorem dX11_take_1 : decode cX11_take 1 = .ok (.iconst 0, 1) := by decide +kernel
theorem dX11_take_11 : decode cX11_take 11 = .ok (.istore_n 2, 1) := by decide +kernel
theorem dX11_take_12 : decode cX11_take 12 = .ok (.iload_n 2, 1) := by decide +kernel
theorem dX11_take_13 : decode cX11_take 13 = .ok (.ifCond .eq 6, 3) := by decide +kernel
theorem dX11_take_16 : decode cX11_take 16 = .ok (.iload_n 2, 1) := by decide +kernel
theorem dX11_take_17 : decode cX11_take 17 = .ok (.ineg, 1) := by decide +kernel
theorem dX11_take_18 : decode cX11_take 18 = .ok (.ireturn, 1) := by decide +kernel
theorem dX11_take_19 : decode cX11_take 19 = .ok (.aload_n 0, 1) := by decide +kernel
theorem dX11_take_2 : decode cX11_take 2 = .ok (.putfield 70, 3) := by decide +kernel
theorem dX11_take_20 : decode cX11_take 20 = .ok (.invokevirtual 383, 3) := by decide +kernel
theorem dX11_take_23 : decode cX11_take 23 = .ok (.aload_n 0, 1) := by decide +kernel
theorem dX11_take_24 : decode cX11_take 24 = .ok (.iload_n 1, 1) := by decide +kernel
theorem dX11_take_25 : decode cX11_take 25 = .ok (.invokevirtual 393, 3) := by decide +kernel
theorem dX11_take_28 : decode cX11_take 28 = .ok (.aload_n 0, 1) := by decide +kernel
theorem dX11_take_29 : decode cX11_take 29 = .ok (.getfield 9, 3) := by decide +kernel
theorem dX11_take_32 : decode cX11_take 32 = .ok (.bipush 45, 2) := by decide +kernel
theorem dX11_take_34 : decode cX11_take 34 = .ok (.iload_n 1, 1) := by decide +kernel
theorem dX11_take_35 : decode cX11_take 35 = .ok (.iadd, 1) := by decide +kernel
theorem dX11_take_36 : decode cX11_take 36 = .ok (.iaload, 1) := by decide +kernel
theorem dX11_take_37 : decode cX11_take 37 = .ok (.ireturn, 1) := by decide +kernel
theorem dX11_take_5 : decode cX11_take 5 = .ok (.aload_n 0, 1) := by decide +kernel
theorem dX11_take_6 : decode cX11_take 6 = .ok (.iload_n 1, 1) := by decide +kernel
theorem dX11_take_7 : decode cX11_take 7 = .ok (.i2l, 1) := by decide +kernel
theorem dX11_take_8 : decode cX11_take 8 = .ok (.invokevirtual 390, 3) := by decide +kernel
theorem dX11_walker_0 : decode cX11_walker 0 = .ok (.aload_n 0, 1) := by decide +kernel
theorem dX11_walker_1 : decode cX11_walker 1 = .ok (.aload_n 0, 1) := by decide +kernel
theorem dX11_walker_10 : decode cX11_walker 10 = .ok (.goto 20, 3) := by decide +kernel
theorem dX11_walker_13 : decode cX11_walker 13 = .ok (.iload_n 2, 1) := by decide +kernel
theorem dX11_walker_14 : decode cX11_walker 14 = .ok (.i2l, 1) := by decide +kernel
theorem dX11_walker_15 : decode cX11_walker 15 = .ok (.lconst 0, 1) := by decide +kernel
theorem dX11_walker_16 : decode cX11_walker 16 = .ok (.ldc2_w 371, 3) := by decide +kernel
theorem dX11_walker_19 : decode cX11_walker 19 = .ok (.invokestatic 131, 3) := by decide +kernel
theorem dX11_walker_2 : decode cX11_walker 2 = .ok (.iload_n 1, 1) := by decide +kernel
theorem dX11_walker_22 : decode cX11_walker 22 = .ok (.ifCond .eq 7, 3) := by decide +kernel
theorem dX11_walker_25 : decode cX11_walker 25 = .ok (.iconst 0, 1) := by decide +kernel
theorem dX11_walker_26 : decode cX11_walker 26 = .ok (.goto 4, 3) := by decide +kernel
theorem dX11_walker_29 : decode cX11_walker 29 = .ok (.iconst 2, 1) := by decide +kernel
theorem dX11_walker_3 : decode cX11_walker 3 = .ok (.invokevirtual 368, 3) := by decide +kernel
theorem dX11_walker_30 : decode cX11_walker 30 = .ok (.putfield 70, 3) := by decide +kernel
theorem dX11_walker_33 : decode cX11_walker 33 = .ok (.aload_n 0, 1) := by decide +kernel
theorem dX11_walker_34 : decode cX11_walker 34 = .ok (.getfield 70, 3) := by decide +kernel
theorem dX11_walker_37 : decode cX11_walker 37 = .ok (.ifCond .le 5, 3) := by decide +kernel
theorem dX11_walker_40 : decode cX11_walker 40 = .ok (.iconst 0, 1) := by decide +kernel
theorem dX11_walker_41 : decode cX11_walker 41 = .ok (.ireturn, 1) := by decide +kernel
theorem dX11_walker_42 : decode cX11_walker 42 = .ok (.iload_n 2, 1) := by decide +kernel
theorem dX11_walker_43 : decode cX11_walker 43 = .ok (.ifCond .ne 18, 3) := by decide +kernel
theorem dX11_walker_46 : decode cX11_walker 46 = .ok (.aload_n 0, 1) := by decide +kernel
theorem dX11_walker_47 : decode cX11_walker 47 = .ok (.iload_n 1, 1) := by decide +kernel
theorem dX11_walker_48 : decode cX11_walker 48 = .ok (.aload_n 0, 1) := by decide +kernel
theorem dX11_walker_49 : decode cX11_walker 49 = .ok (.getfield 9, 3) := by decide +kernel
theorem dX11_walker_52 : decode cX11_walker 52 = .ok (.bipush 40, 2) := by decide +kernel
theorem dX11_walker_54 : decode cX11_walker 54 = .ok (.iaload, 1) := by decide +kernel
theorem dX11_walker_55 : decode cX11_walker 55 = .ok (.invokevirtual 345, 3) := by decide +kernel
theorem dX11_walker_58 : decode cX11_walker 58 = .ok (.goto 29, 3) := by decide +kernel
theorem dX11_walker_6 : decode cX11_walker 6 = .ok (.ifCond .ne 7, 3) := by decide +kernel
theorem dX11_walker_61 : decode cX11_walker 61 = .ok (.iload_n 2, 1) := by decide +kernel
theorem dX11_walker_62 : decode cX11_walker 62 = .ok (.iconst 1, 1) := by decide +kernel
theorem dX11_walker_63 : decode cX11_walker 63 = .ok (.if_icmp .ne 15, 3) := by decide +kernel
theorem dX11_walker_66 : decode cX11_walker 66 = .ok (.aload_n 0, 1) := by decide +kernel
theorem dX11_walker_67 : decode cX11_walker 67 = .ok (.getfield 9, 3) := by decide +kernel
theorem dX11_walker_70 : decode cX11_walker 70 = .ok (.bipush 41, 2) := by decide +kernel
theorem dX11_walker_72 : decode cX11_walker 72 = .ok (.iload_n 1, 1) := by decide +kernel
theorem dX11_walker_73 : decode cX11_walker 73 = .ok (.iadd, 1) := by decide +kernel
theorem dX11_walker_74 : decode cX11_walker 74 = .ok (.iaload, 1) := by decide +kernel
theorem dX11_walker_75 : decode cX11_walker 75 = .ok (.goto 12, 3) := by decide +kernel
theorem dX11_walker_78 : decode cX11_walker 78 = .ok (.aload_n 0, 1) := by decide +kernel
theorem dX11_walker_79 : decode cX11_walker 79 = .ok (.getfield 9, 3) := by decide +kernel
theorem dX11_walker_82 : decode cX11_walker 82 = .ok (.bipush 53, 2) := by decide +kernel
theorem dX11_walker_84 : decode cX11_walker 84 = .ok (.iload_n 1, 1) := by decide +kernel
theorem dX11_walker_85 : decode cX11_walker 85 = .ok (.iadd, 1) := by decide +kernel
theorem dX11_walker_86 : decode cX11_walker 86 = .ok (.iaload, 1) := by decide +kernel
theorem dX11_walker_87 : decode cX11_walker 87 = .ok (.ireturn, 1) := by decide +kernel
theorem dX11_walker_9 : decode cX11_walker 9 = .ok (.iconst 1, 1) := by decide +kernel
theorem dX11_walkersIn_0 : decode cX11_walkersIn 0 = .ok (.iconst 0, 1) := by decide +kernel
theorem dX11_walkersIn_1 : decode cX11_walkersIn 1 = .ok (.istore_n 3, 1) := by decide +kernel
theorem dX11_walkersIn_11 : decode cX11_walkersIn 11 = .ok (.iconst 4, 1) := by decide +kernel
theorem dX11_walkersIn_12 : decode cX11_walkersIn 12 = .ok (.iaload, 1) := by decide +kernel
theorem dX11_walkersIn_13 : decode cX11_walkersIn 13 = .ok (.if_icmp .ge 36, 3) := by decide +kernel
theorem dX11_walkersIn_16 : decode cX11_walkersIn 16 = .ok (.iload_n 3, 1) := by decide +kernel
theorem dX11_walkersIn_17 : decode cX11_walkersIn 17 = .ok (.aload_n 0, 1) := by decide +kernel
theorem dX11_walkersIn_18 : decode cX11_walkersIn 18 = .ok (.iload 4, 2) := by decide +kernel
theorem dX11_walkersIn_2 : decode cX11_walkersIn 2 = .ok (.iconst 0, 1) := by decide +kernel
theorem dX11_walkersIn_20 : decode cX11_walkersIn 20 = .ok (.aload_n 0, 1) := by decide +kernel
theorem dX11_walkersIn_21 : decode cX11_walkersIn 21 = .ok (.getfield 9, 3) := by decide +kernel
theorem dX11_walkersIn_24 : decode cX11_walkersIn 24 = .ok (.bipush 40, 2) := by decide +kernel
theorem dX11_walkersIn_26 : decode cX11_walkersIn 26 = .ok (.iaload, 1) := by decide +kernel
theorem dX11_walkersIn_27 : decode cX11_walkersIn 27 = .ok (.iload_n 2, 1) := by decide +kernel
theorem dX11_walkersIn_28 : decode cX11_walkersIn 28 = .ok (.iadd, 1) := by decide +kernel
theorem dX11_walkersIn_29 : decode cX11_walkersIn 29 = .ok (.invokevirtual 345, 3) := by decide +kernel
theorem dX11_walkersIn_3 : decode cX11_walkersIn 3 = .ok (.istore 4, 2) := by decide +kernel
theorem dX11_walkersIn_32 : decode cX11_walkersIn 32 = .ok (.iload_n 1, 1) := by decide +kernel
theorem dX11_walkersIn_33 : decode cX11_walkersIn 33 = .ok (.if_icmp .ne 7, 3) := by decide +kernel
theorem dX11_walkersIn_36 : decode cX11_walkersIn 36 = .ok (.iconst 1, 1) := by decide +kernel
theorem dX11_walkersIn_37 : decode cX11_walkersIn 37 = .ok (.goto 4, 3) := by decide +kernel
theorem dX11_walkersIn_40 : decode cX11_walkersIn 40 = .ok (.iconst 0, 1) := by decide +kernel
theorem dX11_walkersIn_41 : decode cX11_walkersIn 41 = .ok (.iadd, 1) := by decide +kernel
theorem dX11_walkersIn_42 : decode cX11_walkersIn 42 = .ok (.istore_n 3, 1) := by decide +kernel
theorem dX11_walkersIn_43 : decode cX11_walkersIn 43 = .ok (.iinc 4 1, 3) := by decide +kernel
theorem dX11_walkersIn_46 : decode cX11_walkersIn 46 = .ok (.goto (-41), 3) := by decide +kernel
theorem dX11_walkersIn_49 : decode cX11_walkersIn 49 = .ok (.iload_n 3, 1) := by decide +kernel
theorem dX11_walkersIn_5 : decode cX11_walkersIn 5 = .ok (.iload 4, 2) := by decide +kernel
theorem dX11_walkersIn_50 : decode cX11_walkersIn 50 = .ok (.ireturn, 1) := by decide +kernel
theorem dX11_walkersIn_7 : decode cX11_walkersIn 7 = .ok (.aload_n 0, 1) := by decide +kernel
theorem dX11_walkersIn_8 : decode cX11_walkersIn 8 = .ok (.getfield 9, 3) := by decide +kernel
theorem dX11_walks_0 : decode cX11_walks 0 = .ok (.aload_n 0, 1) := by decide +kernel
theorem dX11_walks_1 : decode cX11_walks 1 = .ok (.getfield 9, 3) := by decide +kernel
theorem dX11_walks_10 : decode cX11_walks 10 = .ok (.iadd, 1) := by decide +kernel
theorem dX11_walks_11 : decode cX11_walks 11 = .ok (.iload_n 2, 1) := by decide +kernel
theorem dX11_walks_12 : decode cX11_walks 12 = .ok (.aload_n 0, 1) := by decide +kernel
theorem dX11_walks_13 : decode cX11_walks 13 = .ok (.getfield 9, 3) := by decide +kernel
theorem dX11_walks_16 : decode cX11_walks 16 = .ok (.bipush 53, 2) := by decide +kernel
theorem dX11_walks_18 : decode cX11_walks 18 = .ok (.iload_n 1, 1) := by decide +kernel
theorem dX11_walks_19 : decode cX11_walks 19 = .ok (.iadd, 1) := by decide +kernel
theorem dX11_walks_20 : decode cX11_walks 20 = .ok (.iaload, 1) := by decide +kernel
theorem dX11_walks_21 : decode cX11_walks 21 = .ok (.irem, 1) := by decide +kernel
theorem dX11_walks_22 : decode cX11_walks 22 = .ok (.iadd, 1) := by decide +kernel
theorem dX11_walks_23 : decode cX11_walks 23 = .ok (.iaload, 1) := by decide +kernel
theorem dX11_walks_24 : decode cX11_walks 24 = .ok (.ireturn, 1) := by decide +kernel
theorem dX11_walks_4 : decode cX11_walks 4 = .ok (.bipush 57, 2) := by decide +kernel
theorem dX11_walks_6 : decode cX11_walks 6 = .ok (.bipush 8, 2) := by decide +kernel
theorem dX11_walks_8 : decode cX11_walks 8 = .ok (.iload_n 1, 1) := by decide +kernel
theorem dX11_walks_9 : decode cX11_walks 9 = .ok (.imul, 1) := by decide +kernel
