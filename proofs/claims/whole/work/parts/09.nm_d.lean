theorem dX11_done_57 : decode cX11_done 57 = .ok (.ireturn, 1) := by decide +kernel
theorem dX11_done_58 : decode cX11_done 58 = .ok (.lload_n 1, 1) := by decide +kernel
theorem dX11_done_59 : decode cX11_done 59 = .ok (.lload_n 3, 1) := by decide +kernel
theorem dX11_done_60 : decode cX11_done 60 = .ok (.lmul, 1) := by decide +kernel
theorem dX11_done_61 : decode cX11_done 61 = .ok (.invokestatic 303, 3) := by decide +kernel
theorem dX11_done_64 : decode cX11_done 64 = .ok (.ireturn, 1) := by decide +kernel
theorem dX11_done_65 : decode cX11_done 65 = .ok (.lload_n 1, 1) := by decide +kernel
theorem dX11_done_66 : decode cX11_done 66 = .ok (.lload_n 3, 1) := by decide +kernel
theorem dX11_done_67 : decode cX11_done 67 = .ok (.lcmp, 1) := by decide +kernel
theorem dX11_done_68 : decode cX11_done 68 = .ok (.ifCond .ne 7, 3) := by decide +kernel
theorem dX11_done_71 : decode cX11_done 71 = .ok (.iconst 1, 1) := by decide +kernel
theorem dX11_done_72 : decode cX11_done 72 = .ok (.goto 4, 3) := by decide +kernel
theorem dX11_done_75 : decode cX11_done 75 = .ok (.iconst 0, 1) := by decide +kernel
theorem dX11_done_76 : decode cX11_done 76 = .ok (.ireturn, 1) := by decide +kernel
theorem dX11_done_77 : decode cX11_done 77 = .ok (.lload_n 1, 1) := by decide +kernel
theorem dX11_done_78 : decode cX11_done 78 = .ok (.lload_n 3, 1) := by decide +kernel
theorem dX11_done_79 : decode cX11_done 79 = .ok (.lcmp, 1) := by decide +kernel
theorem dX11_done_80 : decode cX11_done 80 = .ok (.ifCond .ge 7, 3) := by decide +kernel
theorem dX11_done_83 : decode cX11_done 83 = .ok (.iconst 1, 1) := by decide +kernel
theorem dX11_done_84 : decode cX11_done 84 = .ok (.goto 4, 3) := by decide +kernel
theorem dX11_done_87 : decode cX11_done 87 = .ok (.iconst 0, 1) := by decide +kernel
theorem dX11_done_88 : decode cX11_done 88 = .ok (.ireturn, 1) := by decide +kernel
theorem dX11_done_89 : decode cX11_done 89 = .ok (.lload_n 1, 1) := by decide +kernel
theorem dX11_done_90 : decode cX11_done 90 = .ok (.lload_n 3, 1) := by decide +kernel
theorem dX11_done_91 : decode cX11_done 91 = .ok (.lcmp, 1) := by decide +kernel
theorem dX11_done_92 : decode cX11_done 92 = .ok (.ifCond .le 7, 3) := by decide +kernel
theorem dX11_done_95 : decode cX11_done 95 = .ok (.iconst 1, 1) := by decide +kernel
theorem dX11_done_96 : decode cX11_done 96 = .ok (.goto 4, 3) := by decide +kernel
theorem dX11_done_99 : decode cX11_done 99 = .ok (.iconst 0, 1) := by decide +kernel
theorem dX11_done_100 : decode cX11_done 100 = .ok (.ireturn, 1) := by decide +kernel
theorem dX11_done_101 : decode cX11_done 101 = .ok (.lload_n 1, 1) := by decide +kernel
theorem dX11_done_102 : decode cX11_done 102 = .ok (.lload_n 3, 1) := by decide +kernel
theorem dX11_done_103 : decode cX11_done 103 = .ok (.ladd, 1) := by decide +kernel
theorem dX11_done_104 : decode cX11_done 104 = .ok (.lconst 1, 1) := by decide +kernel
theorem dX11_done_105 : decode cX11_done 105 = .ok (.lcmp, 1) := by decide +kernel
theorem dX11_done_106 : decode cX11_done 106 = .ok (.ifCond .le 7, 3) := by decide +kernel
theorem dX11_done_109 : decode cX11_done 109 = .ok (.iconst 1, 1) := by decide +kernel
theorem dX11_done_110 : decode cX11_done 110 = .ok (.goto 4, 3) := by decide +kernel
theorem dX11_done_113 : decode cX11_done 113 = .ok (.iconst 0, 1) := by decide +kernel
theorem dX11_done_114 : decode cX11_done 114 = .ok (.ireturn, 1) := by decide +kernel
theorem dX11_done_115 : decode cX11_done 115 = .ok (.lload_n 1, 1) := by decide +kernel
theorem dX11_done_116 : decode cX11_done 116 = .ok (.lload_n 3, 1) := by decide +kernel
theorem dX11_done_117 : decode cX11_done 117 = .ok (.ladd, 1) := by decide +kernel
theorem dX11_done_118 : decode cX11_done 118 = .ok (.lconst 0, 1) := by decide +kernel
theorem dX11_done_119 : decode cX11_done 119 = .ok (.lcmp, 1) := by decide +kernel
theorem dX11_done_120 : decode cX11_done 120 = .ok (.ifCond .le 7, 3) := by decide +kernel
theorem dX11_done_123 : decode cX11_done 123 = .ok (.iconst 1, 1) := by decide +kernel
theorem dX11_done_124 : decode cX11_done 124 = .ok (.goto 4, 3) := by decide +kernel
theorem dX11_done_127 : decode cX11_done 127 = .ok (.iconst 0, 1) := by decide +kernel
theorem dX11_done_128 : decode cX11_done 128 = .ok (.ireturn, 1) := by decide +kernel
theorem dX11_lawOf_0 : decode cX11_lawOf 0 = .ok (.iconst 0, 1) := by decide +kernel
theorem dX11_lawOf_1 : decode cX11_lawOf 1 = .ok (.istore_n 3, 1) := by decide +kernel
theorem dX11_lawOf_2 : decode cX11_lawOf 2 = .ok (.iconst 0, 1) := by decide +kernel
theorem dX11_lawOf_3 : decode cX11_lawOf 3 = .ok (.istore 4, 2) := by decide +kernel
theorem dX11_lawOf_5 : decode cX11_lawOf 5 = .ok (.iload 4, 2) := by decide +kernel
theorem dX11_lawOf_7 : decode cX11_lawOf 7 = .ok (.aload_n 0, 1) := by decide +kernel
theorem dX11_lawOf_8 : decode cX11_lawOf 8 = .ok (.getfield 9, 3) := by decide +kernel
theorem dX11_lawOf_11 : decode cX11_lawOf 11 = .ok (.iload_n 1, 1) := by decide +kernel
theorem dX11_lawOf_12 : decode cX11_lawOf 12 = .ok (.iaload, 1) := by decide +kernel
theorem dX11_lawOf_13 : decode cX11_lawOf 13 = .ok (.if_icmp .ge 126, 3) := by decide +kernel
theorem dX11_lawOf_16 : decode cX11_lawOf 16 = .ok (.aload_n 0, 1) := by decide +kernel
theorem dX11_lawOf_17 : decode cX11_lawOf 17 = .ok (.getfield 9, 3) := by decide +kernel
theorem dX11_lawOf_20 : decode cX11_lawOf 20 = .ok (.iload_n 2, 1) := by decide +kernel
theorem dX11_lawOf_21 : decode cX11_lawOf 21 = .ok (.iload 4, 2) := by decide +kernel
theorem dX11_lawOf_23 : decode cX11_lawOf 23 = .ok (.iadd, 1) := by decide +kernel
theorem dX11_lawOf_24 : decode cX11_lawOf 24 = .ok (.iaload, 1) := by decide +kernel
theorem dX11_lawOf_25 : decode cX11_lawOf 25 = .ok (.istore 5, 2) := by decide +kernel
theorem dX11_lawOf_27 : decode cX11_lawOf 27 = .ok (.iload 5, 2) := by decide +kernel
theorem dX11_lawOf_29 : decode cX11_lawOf 29 = .ok (.bipush 100, 2) := by decide +kernel
theorem dX11_lawOf_31 : decode cX11_lawOf 31 = .ok (.if_icmp .lt 42, 3) := by decide +kernel
theorem dX11_lawOf_34 : decode cX11_lawOf 34 = .ok (.aload_n 0, 1) := by decide +kernel
theorem dX11_lawOf_35 : decode cX11_lawOf 35 = .ok (.getfield 30, 3) := by decide +kernel
theorem dX11_lawOf_38 : decode cX11_lawOf 38 = .ok (.iload_n 3, 1) := by decide +kernel
theorem dX11_lawOf_39 : decode cX11_lawOf 39 = .ok (.iload 5, 2) := by decide +kernel
theorem dX11_lawOf_41 : decode cX11_lawOf 41 = .ok (.sipush 1000, 3) := by decide +kernel
theorem dX11_lawOf_44 : decode cX11_lawOf 44 = .ok (.if_icmp .lt 12, 3) := by decide +kernel
theorem dX11_lawOf_47 : decode cX11_lawOf 47 = .ok (.iload 5, 2) := by decide +kernel
theorem dX11_lawOf_49 : decode cX11_lawOf 49 = .ok (.sipush 1000, 3) := by decide +kernel
theorem dX11_lawOf_52 : decode cX11_lawOf 52 = .ok (.isub, 1) := by decide +kernel
theorem dX11_lawOf_53 : decode cX11_lawOf 53 = .ok (.goto 13, 3) := by decide +kernel
theorem dX11_lawOf_56 : decode cX11_lawOf 56 = .ok (.aload_n 0, 1) := by decide +kernel
theorem dX11_lawOf_57 : decode cX11_lawOf 57 = .ok (.getfield 33, 3) := by decide +kernel
theorem dX11_lawOf_60 : decode cX11_lawOf 60 = .ok (.iload 5, 2) := by decide +kernel
theorem dX11_lawOf_62 : decode cX11_lawOf 62 = .ok (.bipush 100, 2) := by decide +kernel
theorem dX11_lawOf_64 : decode cX11_lawOf 64 = .ok (.isub, 1) := by decide +kernel
theorem dX11_lawOf_65 : decode cX11_lawOf 65 = .ok (.iaload, 1) := by decide +kernel
theorem dX11_lawOf_66 : decode cX11_lawOf 66 = .ok (.iastore, 1) := by decide +kernel
theorem dX11_lawOf_67 : decode cX11_lawOf 67 = .ok (.iinc 3 1, 3) := by decide +kernel
theorem dX11_lawOf_70 : decode cX11_lawOf 70 = .ok (.goto 63, 3) := by decide +kernel
theorem dX11_lawOf_73 : decode cX11_lawOf 73 = .ok (.iload 5, 2) := by decide +kernel
theorem dX11_lawOf_75 : decode cX11_lawOf 75 = .ok (.bipush 18, 2) := by decide +kernel
theorem dX11_lawOf_77 : decode cX11_lawOf 77 = .ok (.if_icmp .ne 24, 3) := by decide +kernel
theorem dX11_lawOf_80 : decode cX11_lawOf 80 = .ok (.aload_n 0, 1) := by decide +kernel
theorem dX11_lawOf_81 : decode cX11_lawOf 81 = .ok (.getfield 30, 3) := by decide +kernel
theorem dX11_lawOf_84 : decode cX11_lawOf 84 = .ok (.iload_n 3, 1) := by decide +kernel
theorem dX11_lawOf_85 : decode cX11_lawOf 85 = .ok (.iconst 1, 1) := by decide +kernel
theorem dX11_lawOf_86 : decode cX11_lawOf 86 = .ok (.isub, 1) := by decide +kernel
theorem dX11_lawOf_87 : decode cX11_lawOf 87 = .ok (.iconst 1, 1) := by decide +kernel
theorem dX11_lawOf_88 : decode cX11_lawOf 88 = .ok (.aload_n 0, 1) := by decide +kernel
theorem dX11_lawOf_89 : decode cX11_lawOf 89 = .ok (.getfield 30, 3) := by decide +kernel
theorem dX11_lawOf_92 : decode cX11_lawOf 92 = .ok (.iload_n 3, 1) := by decide +kernel
theorem dX11_lawOf_93 : decode cX11_lawOf 93 = .ok (.iconst 1, 1) := by decide +kernel
theorem dX11_lawOf_94 : decode cX11_lawOf 94 = .ok (.isub, 1) := by decide +kernel
theorem dX11_lawOf_95 : decode cX11_lawOf 95 = .ok (.iaload, 1) := by decide +kernel
theorem dX11_lawOf_96 : decode cX11_lawOf 96 = .ok (.isub, 1) := by decide +kernel
theorem dX11_lawOf_97 : decode cX11_lawOf 97 = .ok (.iastore, 1) := by decide +kernel
theorem dX11_lawOf_98 : decode cX11_lawOf 98 = .ok (.goto 35, 3) := by decide +kernel
theorem dX11_lawOf_101 : decode cX11_lawOf 101 = .ok (.iinc 3 (-1), 3) := by decide +kernel
theorem dX11_lawOf_104 : decode cX11_lawOf 104 = .ok (.aload_n 0, 1) := by decide +kernel
theorem dX11_lawOf_105 : decode cX11_lawOf 105 = .ok (.getfield 30, 3) := by decide +kernel
theorem dX11_lawOf_108 : decode cX11_lawOf 108 = .ok (.iload_n 3, 1) := by decide +kernel
theorem dX11_lawOf_109 : decode cX11_lawOf 109 = .ok (.iconst 1, 1) := by decide +kernel
theorem dX11_lawOf_110 : decode cX11_lawOf 110 = .ok (.isub, 1) := by decide +kernel
theorem dX11_lawOf_111 : decode cX11_lawOf 111 = .ok (.iload 5, 2) := by decide +kernel
theorem dX11_lawOf_113 : decode cX11_lawOf 113 = .ok (.aload_n 0, 1) := by decide +kernel
theorem dX11_lawOf_114 : decode cX11_lawOf 114 = .ok (.getfield 30, 3) := by decide +kernel
theorem dX11_lawOf_117 : decode cX11_lawOf 117 = .ok (.iload_n 3, 1) := by decide +kernel
theorem dX11_lawOf_118 : decode cX11_lawOf 118 = .ok (.iconst 1, 1) := by decide +kernel
theorem dX11_lawOf_119 : decode cX11_lawOf 119 = .ok (.isub, 1) := by decide +kernel
theorem dX11_lawOf_120 : decode cX11_lawOf 120 = .ok (.iaload, 1) := by decide +kernel
theorem dX11_lawOf_121 : decode cX11_lawOf 121 = .ok (.i2l, 1) := by decide +kernel
theorem dX11_lawOf_122 : decode cX11_lawOf 122 = .ok (.aload_n 0, 1) := by decide +kernel
theorem dX11_lawOf_123 : decode cX11_lawOf 123 = .ok (.getfield 30, 3) := by decide +kernel
theorem dX11_lawOf_126 : decode cX11_lawOf 126 = .ok (.iload_n 3, 1) := by decide +kernel
theorem dX11_lawOf_127 : decode cX11_lawOf 127 = .ok (.iaload, 1) := by decide +kernel
theorem dX11_lawOf_128 : decode cX11_lawOf 128 = .ok (.i2l, 1) := by decide +kernel
theorem dX11_lawOf_129 : decode cX11_lawOf 129 = .ok (.invokestatic 307, 3) := by decide +kernel
theorem dX11_lawOf_132 : decode cX11_lawOf 132 = .ok (.iastore, 1) := by decide +kernel
theorem dX11_lawOf_133 : decode cX11_lawOf 133 = .ok (.iinc 4 1, 3) := by decide +kernel
theorem dX11_lawOf_136 : decode cX11_lawOf 136 = .ok (.goto (-131), 3) := by decide +kernel
theorem dX11_lawOf_139 : decode cX11_lawOf 139 = .ok (.aload_n 0, 1) := by decide +kernel
theorem dX11_lawOf_140 : decode cX11_lawOf 140 = .ok (.getfield 30, 3) := by decide +kernel
theorem dX11_lawOf_143 : decode cX11_lawOf 143 = .ok (.iconst 0, 1) := by decide +kernel
theorem dX11_lawOf_144 : decode cX11_lawOf 144 = .ok (.iaload, 1) := by decide +kernel
theorem dX11_lawOf_145 : decode cX11_lawOf 145 = .ok (.ireturn, 1) := by decide +kernel
theorem dX11_hangsFor_0 : decode cX11_hangsFor 0 = .ok (.aload_n 0, 1) := by decide +kernel
theorem dX11_hangsFor_1 : decode cX11_hangsFor 1 = .ok (.getfield 9, 3) := by decide +kernel
theorem dX11_hangsFor_4 : decode cX11_hangsFor 4 = .ok (.iconst 5, 1) := by decide +kernel
theorem dX11_hangsFor_5 : decode cX11_hangsFor 5 = .ok (.iaload, 1) := by decide +kernel
theorem dX11_hangsFor_6 : decode cX11_hangsFor 6 = .ok (.ifCond .ne 5, 3) := by decide +kernel
theorem dX11_hangsFor_9 : decode cX11_hangsFor 9 = .ok (.iload_n 1, 1) := by decide +kernel
theorem dX11_hangsFor_10 : decode cX11_hangsFor 10 = .ok (.ireturn, 1) := by decide +kernel
theorem dX11_hangsFor_11 : decode cX11_hangsFor 11 = .ok (.aload_n 0, 1) := by decide +kernel
theorem dX11_hangsFor_12 : decode cX11_hangsFor 12 = .ok (.getfield 33, 3) := by decide +kernel
theorem dX11_hangsFor_15 : decode cX11_hangsFor 15 = .ok (.iconst 0, 1) := by decide +kernel
theorem dX11_hangsFor_16 : decode cX11_hangsFor 16 = .ok (.iload_n 1, 1) := by decide +kernel
theorem dX11_hangsFor_17 : decode cX11_hangsFor 17 = .ok (.iastore, 1) := by decide +kernel
theorem dX11_hangsFor_18 : decode cX11_hangsFor 18 = .ok (.aload_n 0, 1) := by decide +kernel
theorem dX11_hangsFor_19 : decode cX11_hangsFor 19 = .ok (.getfield 33, 3) := by decide +kernel
theorem dX11_hangsFor_22 : decode cX11_hangsFor 22 = .ok (.iconst 1, 1) := by decide +kernel
theorem dX11_hangsFor_23 : decode cX11_hangsFor 23 = .ok (.iload_n 2, 1) := by decide +kernel
theorem dX11_hangsFor_24 : decode cX11_hangsFor 24 = .ok (.iastore, 1) := by decide +kernel
theorem dX11_hangsFor_25 : decode cX11_hangsFor 25 = .ok (.aload_n 0, 1) := by decide +kernel
theorem dX11_hangsFor_26 : decode cX11_hangsFor 26 = .ok (.getfield 33, 3) := by decide +kernel
theorem dX11_hangsFor_29 : decode cX11_hangsFor 29 = .ok (.iconst 2, 1) := by decide +kernel
theorem dX11_hangsFor_30 : decode cX11_hangsFor 30 = .ok (.iload_n 3, 1) := by decide +kernel
theorem dX11_hangsFor_31 : decode cX11_hangsFor 31 = .ok (.iastore, 1) := by decide +kernel
theorem dX11_hangsFor_32 : decode cX11_hangsFor 32 = .ok (.aload_n 0, 1) := by decide +kernel
theorem dX11_hangsFor_33 : decode cX11_hangsFor 33 = .ok (.getfield 33, 3) := by decide +kernel
theorem dX11_hangsFor_36 : decode cX11_hangsFor 36 = .ok (.iconst 3, 1) := by decide +kernel
theorem dX11_hangsFor_37 : decode cX11_hangsFor 37 = .ok (.iload 4, 2) := by decide +kernel
theorem dX11_hangsFor_39 : decode cX11_hangsFor 39 = .ok (.iastore, 1) := by decide +kernel
theorem dX11_hangsFor_40 : decode cX11_hangsFor 40 = .ok (.aload_n 0, 1) := by decide +kernel
theorem dX11_hangsFor_41 : decode cX11_hangsFor 41 = .ok (.getfield 33, 3) := by decide +kernel
theorem dX11_hangsFor_44 : decode cX11_hangsFor 44 = .ok (.iconst 4, 1) := by decide +kernel
theorem dX11_hangsFor_45 : decode cX11_hangsFor 45 = .ok (.iload 5, 2) := by decide +kernel
theorem dX11_hangsFor_47 : decode cX11_hangsFor 47 = .ok (.bipush 24, 2) := by decide +kernel
theorem dX11_hangsFor_49 : decode cX11_hangsFor 49 = .ok (.irem, 1) := by decide +kernel
theorem dX11_hangsFor_50 : decode cX11_hangsFor 50 = .ok (.iastore, 1) := by decide +kernel
theorem dX11_hangsFor_51 : decode cX11_hangsFor 51 = .ok (.aload_n 0, 1) := by decide +kernel
theorem dX11_hangsFor_52 : decode cX11_hangsFor 52 = .ok (.getfield 33, 3) := by decide +kernel
theorem dX11_hangsFor_55 : decode cX11_hangsFor 55 = .ok (.iconst 5, 1) := by decide +kernel
theorem dX11_hangsFor_56 : decode cX11_hangsFor 56 = .ok (.aload_n 0, 1) := by decide +kernel
theorem dX11_hangsFor_57 : decode cX11_hangsFor 57 = .ok (.iload_n 3, 1) := by decide +kernel
theorem dX11_hangsFor_58 : decode cX11_hangsFor 58 = .ok (.invokevirtual 311, 3) := by decide +kernel
theorem dX11_hangsFor_61 : decode cX11_hangsFor 61 = .ok (.iastore, 1) := by decide +kernel
theorem dX11_hangsFor_62 : decode cX11_hangsFor 62 = .ok (.iconst 0, 1) := by decide +kernel
theorem dX11_hangsFor_63 : decode cX11_hangsFor 63 = .ok (.sipush 999, 3) := by decide +kernel
theorem dX11_hangsFor_66 : decode cX11_hangsFor 66 = .ok (.aload_n 0, 1) := by decide +kernel
theorem dX11_hangsFor_67 : decode cX11_hangsFor 67 = .ok (.iconst 5, 1) := by decide +kernel
theorem dX11_hangsFor_68 : decode cX11_hangsFor 68 = .ok (.sipush 459, 3) := by decide +kernel
theorem dX11_hangsFor_71 : decode cX11_hangsFor 71 = .ok (.invokevirtual 313, 3) := by decide +kernel
theorem dX11_hangsFor_74 : decode cX11_hangsFor 74 = .ok (.invokestatic 316, 3) := by decide +kernel
theorem dX11_hangsFor_77 : decode cX11_hangsFor 77 = .ok (.invokestatic 318, 3) := by decide +kernel
theorem dX11_hangsFor_80 : decode cX11_hangsFor 80 = .ok (.ireturn, 1) := by decide +kernel
theorem dX11_setsFree_0 : decode cX11_setsFree 0 = .ok (.aload_n 0, 1) := by decide +kernel
theorem dX11_setsFree_1 : decode cX11_setsFree 1 = .ok (.getfield 9, 3) := by decide +kernel
theorem dX11_setsFree_4 : decode cX11_setsFree 4 = .ok (.bipush 6, 2) := by decide +kernel
theorem dX11_setsFree_6 : decode cX11_setsFree 6 = .ok (.iaload, 1) := by decide +kernel
theorem dX11_setsFree_7 : decode cX11_setsFree 7 = .ok (.ifCond .ne 5, 3) := by decide +kernel
theorem dX11_setsFree_10 : decode cX11_setsFree 10 = .ok (.iconst 1, 1) := by decide +kernel
theorem dX11_setsFree_11 : decode cX11_setsFree 11 = .ok (.ireturn, 1) := by decide +kernel
theorem dX11_setsFree_12 : decode cX11_setsFree 12 = .ok (.aload_n 0, 1) := by decide +kernel
theorem dX11_setsFree_13 : decode cX11_setsFree 13 = .ok (.getfield 33, 3) := by decide +kernel
theorem dX11_setsFree_16 : decode cX11_setsFree 16 = .ok (.iconst 0, 1) := by decide +kernel
theorem dX11_setsFree_17 : decode cX11_setsFree 17 = .ok (.aload_n 0, 1) := by decide +kernel
theorem dX11_setsFree_18 : decode cX11_setsFree 18 = .ok (.getfield 9, 3) := by decide +kernel
theorem dX11_setsFree_21 : decode cX11_setsFree 21 = .ok (.bipush 45, 2) := by decide +kernel
theorem dX11_setsFree_23 : decode cX11_setsFree 23 = .ok (.iload_n 1, 1) := by decide +kernel
theorem dX11_setsFree_24 : decode cX11_setsFree 24 = .ok (.iadd, 1) := by decide +kernel
theorem dX11_setsFree_25 : decode cX11_setsFree 25 = .ok (.iaload, 1) := by decide +kernel
theorem dX11_setsFree_26 : decode cX11_setsFree 26 = .ok (.iastore, 1) := by decide +kernel
theorem dX11_setsFree_27 : decode cX11_setsFree 27 = .ok (.aload_n 0, 1) := by decide +kernel
theorem dX11_setsFree_28 : decode cX11_setsFree 28 = .ok (.getfield 33, 3) := by decide +kernel
theorem dX11_setsFree_31 : decode cX11_setsFree 31 = .ok (.iconst 1, 1) := by decide +kernel
theorem dX11_setsFree_32 : decode cX11_setsFree 32 = .ok (.aload_n 0, 1) := by decide +kernel
theorem dX11_setsFree_33 : decode cX11_setsFree 33 = .ok (.getfield 9, 3) := by decide +kernel
theorem dX11_setsFree_36 : decode cX11_setsFree 36 = .ok (.bipush 45, 2) := by decide +kernel
theorem dX11_setsFree_38 : decode cX11_setsFree 38 = .ok (.iload_n 2, 1) := by decide +kernel
theorem dX11_setsFree_39 : decode cX11_setsFree 39 = .ok (.iadd, 1) := by decide +kernel
theorem dX11_setsFree_40 : decode cX11_setsFree 40 = .ok (.iaload, 1) := by decide +kernel
theorem dX11_setsFree_41 : decode cX11_setsFree 41 = .ok (.iastore, 1) := by decide +kernel
theorem dX11_setsFree_42 : decode cX11_setsFree 42 = .ok (.aload_n 0, 1) := by decide +kernel
theorem dX11_setsFree_43 : decode cX11_setsFree 43 = .ok (.getfield 33, 3) := by decide +kernel
theorem dX11_setsFree_46 : decode cX11_setsFree 46 = .ok (.iconst 2, 1) := by decide +kernel
theorem dX11_setsFree_47 : decode cX11_setsFree 47 = .ok (.aload_n 0, 1) := by decide +kernel
theorem dX11_setsFree_48 : decode cX11_setsFree 48 = .ok (.getfield 9, 3) := by decide +kernel
theorem dX11_setsFree_51 : decode cX11_setsFree 51 = .ok (.bipush 24, 2) := by decide +kernel
theorem dX11_setsFree_53 : decode cX11_setsFree 53 = .ok (.iload_n 1, 1) := by decide +kernel
theorem dX11_setsFree_54 : decode cX11_setsFree 54 = .ok (.iadd, 1) := by decide +kernel
theorem dX11_setsFree_55 : decode cX11_setsFree 55 = .ok (.iaload, 1) := by decide +kernel
theorem dX11_setsFree_56 : decode cX11_setsFree 56 = .ok (.iastore, 1) := by decide +kernel
theorem dX11_setsFree_57 : decode cX11_setsFree 57 = .ok (.aload_n 0, 1) := by decide +kernel
theorem dX11_setsFree_58 : decode cX11_setsFree 58 = .ok (.getfield 33, 3) := by decide +kernel
theorem dX11_setsFree_61 : decode cX11_setsFree 61 = .ok (.iconst 3, 1) := by decide +kernel
theorem dX11_setsFree_62 : decode cX11_setsFree 62 = .ok (.aload_n 0, 1) := by decide +kernel
theorem dX11_setsFree_63 : decode cX11_setsFree 63 = .ok (.getfield 9, 3) := by decide +kernel
theorem dX11_setsFree_66 : decode cX11_setsFree 66 = .ok (.bipush 24, 2) := by decide +kernel
theorem dX11_setsFree_68 : decode cX11_setsFree 68 = .ok (.iload_n 2, 1) := by decide +kernel
theorem dX11_setsFree_69 : decode cX11_setsFree 69 = .ok (.iadd, 1) := by decide +kernel
theorem dX11_setsFree_70 : decode cX11_setsFree 70 = .ok (.iaload, 1) := by decide +kernel
theorem dX11_setsFree_71 : decode cX11_setsFree 71 = .ok (.iastore, 1) := by decide +kernel
theorem dX11_setsFree_72 : decode cX11_setsFree 72 = .ok (.aload_n 0, 1) := by decide +kernel
theorem dX11_setsFree_73 : decode cX11_setsFree 73 = .ok (.getfield 33, 3) := by decide +kernel
theorem dX11_setsFree_76 : decode cX11_setsFree 76 = .ok (.iconst 4, 1) := by decide +kernel
theorem dX11_setsFree_77 : decode cX11_setsFree 77 = .ok (.aload_n 0, 1) := by decide +kernel
theorem dX11_setsFree_78 : decode cX11_setsFree 78 = .ok (.getfield 9, 3) := by decide +kernel
theorem dX11_setsFree_81 : decode cX11_setsFree 81 = .ok (.bipush 40, 2) := by decide +kernel
theorem dX11_setsFree_83 : decode cX11_setsFree 83 = .ok (.iaload, 1) := by decide +kernel
theorem dX11_setsFree_84 : decode cX11_setsFree 84 = .ok (.bipush 24, 2) := by decide +kernel
theorem dX11_setsFree_86 : decode cX11_setsFree 86 = .ok (.irem, 1) := by decide +kernel
theorem dX11_setsFree_87 : decode cX11_setsFree 87 = .ok (.iastore, 1) := by decide +kernel
theorem dX11_setsFree_88 : decode cX11_setsFree 88 = .ok (.aload_n 0, 1) := by decide +kernel
theorem dX11_setsFree_89 : decode cX11_setsFree 89 = .ok (.bipush 6, 2) := by decide +kernel
theorem dX11_setsFree_91 : decode cX11_setsFree 91 = .ok (.sipush 1359, 3) := by decide +kernel
theorem dX11_setsFree_94 : decode cX11_setsFree 94 = .ok (.invokevirtual 313, 3) := by decide +kernel
theorem dX11_setsFree_97 : decode cX11_setsFree 97 = .ok (.iconst 1, 1) := by decide +kernel
theorem dX11_setsFree_98 : decode cX11_setsFree 98 = .ok (.if_icmp .ne 7, 3) := by decide +kernel
theorem dX11_setsFree_101 : decode cX11_setsFree 101 = .ok (.iconst 1, 1) := by decide +kernel
theorem dX11_setsFree_102 : decode cX11_setsFree 102 = .ok (.goto 4, 3) := by decide +kernel
theorem dX11_setsFree_105 : decode cX11_setsFree 105 = .ok (.iconst 0, 1) := by decide +kernel
theorem dX11_setsFree_106 : decode cX11_setsFree 106 = .ok (.ireturn, 1) := by decide +kernel
theorem dX11_hangsIn_0 : decode cX11_hangsIn 0 = .ok (.aload_n 0, 1) := by decide +kernel
theorem dX11_hangsIn_1 : decode cX11_hangsIn 1 = .ok (.iload_n 1, 1) := by decide +kernel
theorem dX11_hangsIn_2 : decode cX11_hangsIn 2 = .ok (.iconst 1, 1) := by decide +kernel
theorem dX11_hangsIn_3 : decode cX11_hangsIn 3 = .ok (.invokevirtual 283, 3) := by decide +kernel
theorem dX11_hangsIn_6 : decode cX11_hangsIn 6 = .ok (.ifCond .eq 20, 3) := by decide +kernel
theorem dX11_hangsIn_9 : decode cX11_hangsIn 9 = .ok (.aload_n 0, 1) := by decide +kernel
theorem dX11_hangsIn_10 : decode cX11_hangsIn 10 = .ok (.getfield 9, 3) := by decide +kernel
theorem dX11_hangsIn_13 : decode cX11_hangsIn 13 = .ok (.bipush 16, 2) := by decide +kernel
theorem dX11_hangsIn_15 : decode cX11_hangsIn 15 = .ok (.iload_n 1, 1) := by decide +kernel
theorem dX11_hangsIn_16 : decode cX11_hangsIn 16 = .ok (.iadd, 1) := by decide +kernel
theorem dX11_hangsIn_17 : decode cX11_hangsIn 17 = .ok (.iaload, 1) := by decide +kernel
theorem dX11_hangsIn_18 : decode cX11_hangsIn 18 = .ok (.iload_n 2, 1) := by decide +kernel
theorem dX11_hangsIn_19 : decode cX11_hangsIn 19 = .ok (.if_icmp .ne 7, 3) := by decide +kernel
theorem dX11_hangsIn_22 : decode cX11_hangsIn 22 = .ok (.iconst 1, 1) := by decide +kernel
theorem dX11_hangsIn_23 : decode cX11_hangsIn 23 = .ok (.goto 4, 3) := by decide +kernel
theorem dX11_hangsIn_26 : decode cX11_hangsIn 26 = .ok (.iconst 0, 1) := by decide +kernel
theorem dX11_hangsIn_27 : decode cX11_hangsIn 27 = .ok (.ireturn, 1) := by decide +kernel
theorem dX11_fallingWith_0 : decode cX11_fallingWith 0 = .ok (.iload_n 2, 1) := by decide +kernel
theorem dX11_fallingWith_1 : decode cX11_fallingWith 1 = .ok (.istore_n 3, 1) := by decide +kernel
theorem dX11_fallingWith_2 : decode cX11_fallingWith 2 = .ok (.iconst (-1), 1) := by decide +kernel
theorem dX11_fallingWith_3 : decode cX11_fallingWith 3 = .ok (.istore 4, 2) := by decide +kernel
theorem dX11_fallingWith_5 : decode cX11_fallingWith 5 = .ok (.iload 4, 2) := by decide +kernel
theorem dX11_fallingWith_7 : decode cX11_fallingWith 7 = .ok (.iload_n 3, 1) := by decide +kernel
theorem dX11_fallingWith_8 : decode cX11_fallingWith 8 = .ok (.if_icmp .eq 65, 3) := by decide +kernel
theorem dX11_fallingWith_11 : decode cX11_fallingWith 11 = .ok (.iload_n 3, 1) := by decide +kernel
theorem dX11_fallingWith_12 : decode cX11_fallingWith 12 = .ok (.istore 4, 2) := by decide +kernel
theorem dX11_fallingWith_14 : decode cX11_fallingWith 14 = .ok (.iconst 0, 1) := by decide +kernel
theorem dX11_fallingWith_15 : decode cX11_fallingWith 15 = .ok (.istore 5, 2) := by decide +kernel
theorem dX11_fallingWith_17 : decode cX11_fallingWith 17 = .ok (.iload 5, 2) := by decide +kernel
theorem dX11_fallingWith_19 : decode cX11_fallingWith 19 = .ok (.aload_n 0, 1) := by decide +kernel
theorem dX11_fallingWith_20 : decode cX11_fallingWith 20 = .ok (.invokevirtual 280, 3) := by decide +kernel
theorem dX11_fallingWith_23 : decode cX11_fallingWith 23 = .ok (.if_icmp .ge 47, 3) := by decide +kernel
theorem dX11_fallingWith_26 : decode cX11_fallingWith 26 = .ok (.aload_n 0, 1) := by decide +kernel
theorem dX11_fallingWith_27 : decode cX11_fallingWith 27 = .ok (.iload 5, 2) := by decide +kernel
theorem dX11_fallingWith_29 : decode cX11_fallingWith 29 = .ok (.iload_n 1, 1) := by decide +kernel
theorem dX11_fallingWith_30 : decode cX11_fallingWith 30 = .ok (.invokevirtual 320, 3) := by decide +kernel
theorem dX11_fallingWith_33 : decode cX11_fallingWith 33 = .ok (.ifCond .eq 31, 3) := by decide +kernel
theorem dX11_fallingWith_36 : decode cX11_fallingWith 36 = .ok (.iload_n 3, 1) := by decide +kernel
theorem dX11_fallingWith_37 : decode cX11_fallingWith 37 = .ok (.iload 5, 2) := by decide +kernel
theorem dX11_fallingWith_39 : decode cX11_fallingWith 39 = .ok (.invokestatic 323, 3) := by decide +kernel
theorem dX11_fallingWith_42 : decode cX11_fallingWith 42 = .ok (.ifCond .ne 22, 3) := by decide +kernel
theorem dX11_fallingWith_45 : decode cX11_fallingWith 45 = .ok (.aload_n 0, 1) := by decide +kernel
theorem dX11_fallingWith_46 : decode cX11_fallingWith 46 = .ok (.iload 5, 2) := by decide +kernel
theorem dX11_fallingWith_48 : decode cX11_fallingWith 48 = .ok (.iload_n 1, 1) := by decide +kernel
theorem dX11_fallingWith_49 : decode cX11_fallingWith 49 = .ok (.iload 4, 2) := by decide +kernel
theorem dX11_fallingWith_51 : decode cX11_fallingWith 51 = .ok (.invokevirtual 326, 3) := by decide +kernel
theorem dX11_fallingWith_54 : decode cX11_fallingWith 54 = .ok (.ifCond .eq 10, 3) := by decide +kernel
theorem dX11_fallingWith_57 : decode cX11_fallingWith 57 = .ok (.iload_n 3, 1) := by decide +kernel
theorem dX11_fallingWith_58 : decode cX11_fallingWith 58 = .ok (.iconst 1, 1) := by decide +kernel
theorem dX11_fallingWith_59 : decode cX11_fallingWith 59 = .ok (.iload 5, 2) := by decide +kernel
theorem dX11_fallingWith_61 : decode cX11_fallingWith 61 = .ok (.ishl, 1) := by decide +kernel
theorem dX11_fallingWith_62 : decode cX11_fallingWith 62 = .ok (.ior, 1) := by decide +kernel
theorem dX11_fallingWith_63 : decode cX11_fallingWith 63 = .ok (.istore_n 3, 1) := by decide +kernel
theorem dX11_fallingWith_64 : decode cX11_fallingWith 64 = .ok (.iinc 5 1, 3) := by decide +kernel
theorem dX11_fallingWith_67 : decode cX11_fallingWith 67 = .ok (.goto (-50), 3) := by decide +kernel
theorem dX11_fallingWith_70 : decode cX11_fallingWith 70 = .ok (.goto (-65), 3) := by decide +kernel
theorem dX11_fallingWith_73 : decode cX11_fallingWith 73 = .ok (.iload_n 3, 1) := by decide +kernel
theorem dX11_fallingWith_74 : decode cX11_fallingWith 74 = .ok (.ireturn, 1) := by decide +kernel
theorem dX11_comesToo_0 : decode cX11_comesToo 0 = .ok (.aload_n 0, 1) := by decide +kernel
theorem dX11_comesToo_1 : decode cX11_comesToo 1 = .ok (.getfield 9, 3) := by decide +kernel
theorem dX11_comesToo_4 : decode cX11_comesToo 4 = .ok (.bipush 24, 2) := by decide +kernel
theorem dX11_comesToo_6 : decode cX11_comesToo 6 = .ok (.iload_n 1, 1) := by decide +kernel
theorem dX11_comesToo_7 : decode cX11_comesToo 7 = .ok (.iadd, 1) := by decide +kernel
theorem dX11_comesToo_8 : decode cX11_comesToo 8 = .ok (.iaload, 1) := by decide +kernel
theorem dX11_comesToo_9 : decode cX11_comesToo 9 = .ok (.aload_n 0, 1) := by decide +kernel
theorem dX11_comesToo_10 : decode cX11_comesToo 10 = .ok (.iload_n 2, 1) := by decide +kernel
theorem dX11_comesToo_11 : decode cX11_comesToo 11 = .ok (.invokevirtual 311, 3) := by decide +kernel
theorem dX11_comesToo_14 : decode cX11_comesToo 14 = .ok (.iload_n 3, 1) := by decide +kernel
theorem dX11_comesToo_15 : decode cX11_comesToo 15 = .ok (.invokestatic 330, 3) := by decide +kernel
theorem dX11_comesToo_18 : decode cX11_comesToo 18 = .ok (.iadd, 1) := by decide +kernel
theorem dX11_comesToo_19 : decode cX11_comesToo 19 = .ok (.if_icmp .ge 5, 3) := by decide +kernel
theorem dX11_comesToo_22 : decode cX11_comesToo 22 = .ok (.iconst 1, 1) := by decide +kernel
theorem dX11_comesToo_23 : decode cX11_comesToo 23 = .ok (.ireturn, 1) := by decide +kernel
theorem dX11_comesToo_24 : decode cX11_comesToo 24 = .ok (.iconst 0, 1) := by decide +kernel
theorem dX11_comesToo_25 : decode cX11_comesToo 25 = .ok (.istore 4, 2) := by decide +kernel
theorem dX11_comesToo_27 : decode cX11_comesToo 27 = .ok (.iload 4, 2) := by decide +kernel
theorem dX11_comesToo_29 : decode cX11_comesToo 29 = .ok (.aload_n 0, 1) := by decide +kernel
theorem dX11_comesToo_30 : decode cX11_comesToo 30 = .ok (.invokevirtual 280, 3) := by decide +kernel
theorem dX11_comesToo_33 : decode cX11_comesToo 33 = .ok (.if_icmp .ge 52, 3) := by decide +kernel
theorem dX11_comesToo_36 : decode cX11_comesToo 36 = .ok (.iload_n 3, 1) := by decide +kernel
theorem dX11_comesToo_37 : decode cX11_comesToo 37 = .ok (.iload 4, 2) := by decide +kernel
theorem dX11_comesToo_39 : decode cX11_comesToo 39 = .ok (.invokestatic 323, 3) := by decide +kernel
theorem dX11_comesToo_42 : decode cX11_comesToo 42 = .ok (.ifCond .eq 37, 3) := by decide +kernel
theorem dX11_comesToo_45 : decode cX11_comesToo 45 = .ok (.aload_n 0, 1) := by decide +kernel
theorem dX11_comesToo_46 : decode cX11_comesToo 46 = .ok (.getfield 9, 3) := by decide +kernel
theorem dX11_comesToo_49 : decode cX11_comesToo 49 = .ok (.bipush 24, 2) := by decide +kernel
theorem dX11_comesToo_51 : decode cX11_comesToo 51 = .ok (.iload 4, 2) := by decide +kernel
theorem dX11_comesToo_53 : decode cX11_comesToo 53 = .ok (.iadd, 1) := by decide +kernel
theorem dX11_comesToo_54 : decode cX11_comesToo 54 = .ok (.iaload, 1) := by decide +kernel
theorem dX11_comesToo_55 : decode cX11_comesToo 55 = .ok (.aload_n 0, 1) := by decide +kernel
theorem dX11_comesToo_56 : decode cX11_comesToo 56 = .ok (.getfield 9, 3) := by decide +kernel
theorem dX11_comesToo_59 : decode cX11_comesToo 59 = .ok (.bipush 24, 2) := by decide +kernel
theorem dX11_comesToo_61 : decode cX11_comesToo 61 = .ok (.iload_n 1, 1) := by decide +kernel
theorem dX11_comesToo_62 : decode cX11_comesToo 62 = .ok (.iadd, 1) := by decide +kernel
theorem dX11_comesToo_63 : decode cX11_comesToo 63 = .ok (.iaload, 1) := by decide +kernel
theorem dX11_comesToo_64 : decode cX11_comesToo 64 = .ok (.if_icmp .le 15, 3) := by decide +kernel
theorem dX11_comesToo_67 : decode cX11_comesToo 67 = .ok (.aload_n 0, 1) := by decide +kernel
theorem dX11_comesToo_68 : decode cX11_comesToo 68 = .ok (.iload 4, 2) := by decide +kernel
theorem dX11_comesToo_70 : decode cX11_comesToo 70 = .ok (.iload_n 1, 1) := by decide +kernel
theorem dX11_comesToo_71 : decode cX11_comesToo 71 = .ok (.invokevirtual 333, 3) := by decide +kernel
theorem dX11_comesToo_74 : decode cX11_comesToo 74 = .ok (.ifCond .eq 5, 3) := by decide +kernel
theorem dX11_comesToo_77 : decode cX11_comesToo 77 = .ok (.iconst 1, 1) := by decide +kernel
theorem dX11_comesToo_78 : decode cX11_comesToo 78 = .ok (.ireturn, 1) := by decide +kernel
theorem dX11_comesToo_79 : decode cX11_comesToo 79 = .ok (.iinc 4 1, 3) := by decide +kernel
theorem dX11_comesToo_82 : decode cX11_comesToo 82 = .ok (.goto (-55), 3) := by decide +kernel
theorem dX11_comesToo_85 : decode cX11_comesToo 85 = .ok (.iconst 0, 1) := by decide +kernel
theorem dX11_comesToo_86 : decode cX11_comesToo 86 = .ok (.ireturn, 1) := by decide +kernel
theorem dX11_drops_0 : decode cX11_drops 0 = .ok (.iload_n 2, 1) := by decide +kernel
theorem dX11_drops_1 : decode cX11_drops 1 = .ok (.ifCond .ne 4, 3) := by decide +kernel
theorem dX11_drops_4 : decode cX11_drops 4 = .ok (.return_, 1) := by decide +kernel
theorem dX11_drops_5 : decode cX11_drops 5 = .ok (.aload_n 0, 1) := by decide +kernel
theorem dX11_drops_6 : decode cX11_drops 6 = .ok (.iload_n 1, 1) := by decide +kernel
theorem dX11_drops_7 : decode cX11_drops 7 = .ok (.iload_n 2, 1) := by decide +kernel
theorem dX11_drops_8 : decode cX11_drops 8 = .ok (.invokevirtual 336, 3) := by decide +kernel
theorem dX11_drops_11 : decode cX11_drops 11 = .ok (.istore_n 3, 1) := by decide +kernel
theorem dX11_drops_12 : decode cX11_drops 12 = .ok (.iconst 0, 1) := by decide +kernel
theorem dX11_drops_13 : decode cX11_drops 13 = .ok (.istore 4, 2) := by decide +kernel
theorem dX11_drops_15 : decode cX11_drops 15 = .ok (.aload_n 0, 1) := by decide +kernel
theorem dX11_drops_16 : decode cX11_drops 16 = .ok (.iload_n 1, 1) := by decide +kernel
theorem dX11_drops_17 : decode cX11_drops 17 = .ok (.invokevirtual 311, 3) := by decide +kernel
theorem dX11_drops_20 : decode cX11_drops 20 = .ok (.istore 5, 2) := by decide +kernel
theorem dX11_drops_22 : decode cX11_drops 22 = .ok (.iconst 0, 1) := by decide +kernel
theorem dX11_drops_23 : decode cX11_drops 23 = .ok (.istore 6, 2) := by decide +kernel
theorem dX11_drops_25 : decode cX11_drops 25 = .ok (.iload 6, 2) := by decide +kernel
theorem dX11_drops_27 : decode cX11_drops 27 = .ok (.aload_n 0, 1) := by decide +kernel
theorem dX11_drops_28 : decode cX11_drops 28 = .ok (.getfield 9, 3) := by decide +kernel
theorem dX11_drops_31 : decode cX11_drops 31 = .ok (.iconst 2, 1) := by decide +kernel
theorem dX11_drops_32 : decode cX11_drops 32 = .ok (.iaload, 1) := by decide +kernel
theorem dX11_drops_33 : decode cX11_drops 33 = .ok (.if_icmp .ge 138, 3) := by decide +kernel
theorem dX11_drops_36 : decode cX11_drops 36 = .ok (.iconst 0, 1) := by decide +kernel
theorem dX11_drops_37 : decode cX11_drops 37 = .ok (.istore 7, 2) := by decide +kernel
theorem dX11_drops_39 : decode cX11_drops 39 = .ok (.iload 7, 2) := by decide +kernel
theorem dX11_drops_41 : decode cX11_drops 41 = .ok (.aload_n 0, 1) := by decide +kernel
theorem dX11_drops_42 : decode cX11_drops 42 = .ok (.invokevirtual 280, 3) := by decide +kernel
theorem dX11_drops_45 : decode cX11_drops 45 = .ok (.if_icmp .ge 120, 3) := by decide +kernel
theorem dX11_drops_48 : decode cX11_drops 48 = .ok (.iload_n 3, 1) := by decide +kernel
theorem dX11_drops_49 : decode cX11_drops 49 = .ok (.iload 7, 2) := by decide +kernel
theorem dX11_drops_51 : decode cX11_drops 51 = .ok (.invokestatic 323, 3) := by decide +kernel
theorem dX11_drops_54 : decode cX11_drops 54 = .ok (.ifCond .eq 105, 3) := by decide +kernel
theorem dX11_drops_57 : decode cX11_drops 57 = .ok (.aload_n 0, 1) := by decide +kernel
theorem dX11_drops_58 : decode cX11_drops 58 = .ok (.iload 7, 2) := by decide +kernel
theorem dX11_drops_60 : decode cX11_drops 60 = .ok (.iconst 1, 1) := by decide +kernel
theorem dX11_drops_61 : decode cX11_drops 61 = .ok (.invokevirtual 283, 3) := by decide +kernel
theorem dX11_drops_64 : decode cX11_drops 64 = .ok (.ifCond .eq 95, 3) := by decide +kernel
theorem dX11_drops_67 : decode cX11_drops 67 = .ok (.aload_n 0, 1) := by decide +kernel
theorem dX11_drops_68 : decode cX11_drops 68 = .ok (.getfield 9, 3) := by decide +kernel
theorem dX11_drops_71 : decode cX11_drops 71 = .ok (.bipush 24, 2) := by decide +kernel
theorem dX11_drops_73 : decode cX11_drops 73 = .ok (.iload 7, 2) := by decide +kernel
theorem dX11_drops_75 : decode cX11_drops 75 = .ok (.iadd, 1) := by decide +kernel
theorem dX11_drops_76 : decode cX11_drops 76 = .ok (.iaload, 1) := by decide +kernel
theorem dX11_drops_77 : decode cX11_drops 77 = .ok (.iload 6, 2) := by decide +kernel
theorem dX11_drops_79 : decode cX11_drops 79 = .ok (.if_icmp .eq 6, 3) := by decide +kernel
theorem dX11_drops_82 : decode cX11_drops 82 = .ok (.goto 77, 3) := by decide +kernel
theorem dX11_drops_85 : decode cX11_drops 85 = .ok (.iload 4, 2) := by decide +kernel
theorem dX11_drops_87 : decode cX11_drops 87 = .ok (.aload_n 0, 1) := by decide +kernel
theorem dX11_drops_88 : decode cX11_drops 88 = .ok (.getfield 9, 3) := by decide +kernel
theorem dX11_drops_91 : decode cX11_drops 91 = .ok (.bipush 45, 2) := by decide +kernel
theorem dX11_drops_93 : decode cX11_drops 93 = .ok (.iload 7, 2) := by decide +kernel
theorem dX11_drops_95 : decode cX11_drops 95 = .ok (.iadd, 1) := by decide +kernel
theorem dX11_drops_96 : decode cX11_drops 96 = .ok (.iaload, 1) := by decide +kernel
theorem dX11_drops_97 : decode cX11_drops 97 = .ok (.iadd, 1) := by decide +kernel
theorem dX11_drops_98 : decode cX11_drops 98 = .ok (.istore 4, 2) := by decide +kernel
theorem dX11_drops_100 : decode cX11_drops 100 = .ok (.aload_n 0, 1) := by decide +kernel
theorem dX11_drops_101 : decode cX11_drops 101 = .ok (.getfield 9, 3) := by decide +kernel
theorem dX11_drops_104 : decode cX11_drops 104 = .ok (.bipush 8, 2) := by decide +kernel
theorem dX11_drops_106 : decode cX11_drops 106 = .ok (.iload 7, 2) := by decide +kernel
theorem dX11_drops_108 : decode cX11_drops 108 = .ok (.iadd, 1) := by decide +kernel
theorem dX11_drops_109 : decode cX11_drops 109 = .ok (.iconst 2, 1) := by decide +kernel
theorem dX11_drops_110 : decode cX11_drops 110 = .ok (.iastore, 1) := by decide +kernel
theorem dX11_drops_111 : decode cX11_drops 111 = .ok (.aload_n 0, 1) := by decide +kernel
theorem dX11_drops_112 : decode cX11_drops 112 = .ok (.getfield 9, 3) := by decide +kernel
theorem dX11_drops_115 : decode cX11_drops 115 = .ok (.bipush 24, 2) := by decide +kernel
theorem dX11_drops_117 : decode cX11_drops 117 = .ok (.iload 7, 2) := by decide +kernel
theorem dX11_drops_119 : decode cX11_drops 119 = .ok (.iadd, 1) := by decide +kernel
theorem dX11_drops_120 : decode cX11_drops 120 = .ok (.iload 5, 2) := by decide +kernel
theorem dX11_drops_122 : decode cX11_drops 122 = .ok (.iastore, 1) := by decide +kernel
theorem dX11_drops_123 : decode cX11_drops 123 = .ok (.aload_n 0, 1) := by decide +kernel
theorem dX11_drops_124 : decode cX11_drops 124 = .ok (.getfield 9, 3) := by decide +kernel
theorem dX11_drops_127 : decode cX11_drops 127 = .ok (.bipush 32, 2) := by decide +kernel
theorem dX11_drops_129 : decode cX11_drops 129 = .ok (.iload 7, 2) := by decide +kernel
theorem dX11_drops_131 : decode cX11_drops 131 = .ok (.iadd, 1) := by decide +kernel
theorem dX11_drops_132 : decode cX11_drops 132 = .ok (.iconst 0, 1) := by decide +kernel
theorem dX11_drops_133 : decode cX11_drops 133 = .ok (.iastore, 1) := by decide +kernel
theorem dX11_drops_134 : decode cX11_drops 134 = .ok (.iinc 5 1, 3) := by decide +kernel
theorem dX11_drops_137 : decode cX11_drops 137 = .ok (.iload_n 3, 1) := by decide +kernel
theorem dX11_drops_138 : decode cX11_drops 138 = .ok (.iconst 1, 1) := by decide +kernel
theorem dX11_drops_139 : decode cX11_drops 139 = .ok (.iload 7, 2) := by decide +kernel
theorem dX11_drops_141 : decode cX11_drops 141 = .ok (.ishl, 1) := by decide +kernel
theorem dX11_drops_142 : decode cX11_drops 142 = .ok (.iconst (-1), 1) := by decide +kernel
theorem dX11_drops_143 : decode cX11_drops 143 = .ok (.ixor, 1) := by decide +kernel
theorem dX11_drops_144 : decode cX11_drops 144 = .ok (.iand, 1) := by decide +kernel
theorem dX11_drops_145 : decode cX11_drops 145 = .ok (.istore_n 3, 1) := by decide +kernel
theorem dX11_drops_146 : decode cX11_drops 146 = .ok (.aload_n 0, 1) := by decide +kernel
theorem dX11_drops_147 : decode cX11_drops 147 = .ok (.dup, 1) := by decide +kernel
theorem dX11_drops_148 : decode cX11_drops 148 = .ok (.getfield 339, 3) := by decide +kernel
theorem dX11_drops_151 : decode cX11_drops 151 = .ok (.iconst 1, 1) := by decide +kernel
theorem dX11_drops_152 : decode cX11_drops 152 = .ok (.iload 7, 2) := by decide +kernel
theorem dX11_drops_154 : decode cX11_drops 154 = .ok (.ishl, 1) := by decide +kernel
theorem dX11_drops_155 : decode cX11_drops 155 = .ok (.ior, 1) := by decide +kernel
theorem dX11_drops_156 : decode cX11_drops 156 = .ok (.putfield 339, 3) := by decide +kernel
theorem dX11_drops_159 : decode cX11_drops 159 = .ok (.iinc 7 1, 3) := by decide +kernel
theorem dX11_drops_162 : decode cX11_drops 162 = .ok (.goto (-123), 3) := by decide +kernel
theorem dX11_drops_165 : decode cX11_drops 165 = .ok (.iinc 6 1, 3) := by decide +kernel
theorem dX11_drops_168 : decode cX11_drops 168 = .ok (.goto (-143), 3) := by decide +kernel
theorem dX11_drops_171 : decode cX11_drops 171 = .ok (.aload_n 0, 1) := by decide +kernel
theorem dX11_drops_172 : decode cX11_drops 172 = .ok (.dup, 1) := by decide +kernel
theorem dX11_drops_173 : decode cX11_drops 173 = .ok (.getfield 342, 3) := by decide +kernel
theorem dX11_drops_176 : decode cX11_drops 176 = .ok (.iconst 1, 1) := by decide +kernel
theorem dX11_drops_177 : decode cX11_drops 177 = .ok (.iload_n 1, 1) := by decide +kernel
theorem dX11_drops_178 : decode cX11_drops 178 = .ok (.ishl, 1) := by decide +kernel
theorem dX11_drops_179 : decode cX11_drops 179 = .ok (.ior, 1) := by decide +kernel
theorem dX11_drops_180 : decode cX11_drops 180 = .ok (.putfield 342, 3) := by decide +kernel
theorem dX11_drops_183 : decode cX11_drops 183 = .ok (.iconst 0, 1) := by decide +kernel
theorem dX11_drops_184 : decode cX11_drops 184 = .ok (.istore 6, 2) := by decide +kernel
theorem dX11_drops_186 : decode cX11_drops 186 = .ok (.iload 6, 2) := by decide +kernel
theorem dX11_drops_188 : decode cX11_drops 188 = .ok (.aload_n 0, 1) := by decide +kernel
theorem dX11_drops_189 : decode cX11_drops 189 = .ok (.getfield 9, 3) := by decide +kernel
theorem dX11_drops_192 : decode cX11_drops 192 = .ok (.iconst 4, 1) := by decide +kernel
theorem dX11_drops_193 : decode cX11_drops 193 = .ok (.iaload, 1) := by decide +kernel
theorem dX11_drops_194 : decode cX11_drops 194 = .ok (.if_icmp .ge 45, 3) := by decide +kernel
theorem dX11_drops_197 : decode cX11_drops 197 = .ok (.aload_n 0, 1) := by decide +kernel
theorem dX11_drops_198 : decode cX11_drops 198 = .ok (.getfield 9, 3) := by decide +kernel
theorem dX11_drops_201 : decode cX11_drops 201 = .ok (.bipush 41, 2) := by decide +kernel
theorem dX11_drops_203 : decode cX11_drops 203 = .ok (.iload 6, 2) := by decide +kernel
theorem dX11_drops_205 : decode cX11_drops 205 = .ok (.iadd, 1) := by decide +kernel
theorem dX11_drops_206 : decode cX11_drops 206 = .ok (.dup2, 1) := by decide +kernel
theorem dX11_drops_207 : decode cX11_drops 207 = .ok (.iaload, 1) := by decide +kernel
theorem dX11_drops_208 : decode cX11_drops 208 = .ok (.aload_n 0, 1) := by decide +kernel
theorem dX11_drops_209 : decode cX11_drops 209 = .ok (.iload 6, 2) := by decide +kernel
theorem dX11_drops_211 : decode cX11_drops 211 = .ok (.aload_n 0, 1) := by decide +kernel
theorem dX11_drops_212 : decode cX11_drops 212 = .ok (.getfield 9, 3) := by decide +kernel
theorem dX11_drops_215 : decode cX11_drops 215 = .ok (.bipush 40, 2) := by decide +kernel
theorem dX11_drops_217 : decode cX11_drops 217 = .ok (.iaload, 1) := by decide +kernel
theorem dX11_drops_218 : decode cX11_drops 218 = .ok (.invokevirtual 345, 3) := by decide +kernel
theorem dX11_drops_221 : decode cX11_drops 221 = .ok (.iload_n 1, 1) := by decide +kernel
theorem dX11_drops_222 : decode cX11_drops 222 = .ok (.if_icmp .ne 8, 3) := by decide +kernel
theorem dX11_drops_225 : decode cX11_drops 225 = .ok (.iload 4, 2) := by decide +kernel
theorem dX11_drops_227 : decode cX11_drops 227 = .ok (.goto 4, 3) := by decide +kernel
theorem dX11_drops_230 : decode cX11_drops 230 = .ok (.iconst 0, 1) := by decide +kernel
theorem dX11_drops_231 : decode cX11_drops 231 = .ok (.iadd, 1) := by decide +kernel
theorem dX11_drops_232 : decode cX11_drops 232 = .ok (.iastore, 1) := by decide +kernel
theorem dX11_drops_233 : decode cX11_drops 233 = .ok (.iinc 6 1, 3) := by decide +kernel
theorem dX11_drops_236 : decode cX11_drops 236 = .ok (.goto (-50), 3) := by decide +kernel
theorem dX11_drops_239 : decode cX11_drops 239 = .ok (.return_, 1) := by decide +kernel
theorem dX11_fallAll_0 : decode cX11_fallAll 0 = .ok (.iconst 0, 1) := by decide +kernel
theorem dX11_fallAll_1 : decode cX11_fallAll 1 = .ok (.istore_n 2, 1) := by decide +kernel
theorem dX11_fallAll_2 : decode cX11_fallAll 2 = .ok (.iload_n 2, 1) := by decide +kernel
theorem dX11_fallAll_3 : decode cX11_fallAll 3 = .ok (.aload_n 0, 1) := by decide +kernel
theorem dX11_fallAll_4 : decode cX11_fallAll 4 = .ok (.getfield 9, 3) := by decide +kernel
theorem dX11_fallAll_7 : decode cX11_fallAll 7 = .ok (.iconst 1, 1) := by decide +kernel
theorem dX11_fallAll_8 : decode cX11_fallAll 8 = .ok (.iaload, 1) := by decide +kernel
theorem dX11_fallAll_9 : decode cX11_fallAll 9 = .ok (.if_icmp .ge 80, 3) := by decide +kernel
theorem dX11_fallAll_12 : decode cX11_fallAll 12 = .ok (.iconst 0, 1) := by decide +kernel
theorem dX11_fallAll_13 : decode cX11_fallAll 13 = .ok (.istore_n 3, 1) := by decide +kernel
theorem dX11_fallAll_14 : decode cX11_fallAll 14 = .ok (.iconst 0, 1) := by decide +kernel
theorem dX11_fallAll_15 : decode cX11_fallAll 15 = .ok (.istore 4, 2) := by decide +kernel
theorem dX11_fallAll_17 : decode cX11_fallAll 17 = .ok (.iload 4, 2) := by decide +kernel
theorem dX11_fallAll_19 : decode cX11_fallAll 19 = .ok (.aload_n 0, 1) := by decide +kernel
theorem dX11_fallAll_20 : decode cX11_fallAll 20 = .ok (.invokevirtual 280, 3) := by decide +kernel
theorem dX11_fallAll_23 : decode cX11_fallAll 23 = .ok (.if_icmp .ge 54, 3) := by decide +kernel
theorem dX11_fallAll_26 : decode cX11_fallAll 26 = .ok (.iload_n 3, 1) := by decide +kernel
theorem dX11_fallAll_27 : decode cX11_fallAll 27 = .ok (.aload_n 0, 1) := by decide +kernel
theorem dX11_fallAll_28 : decode cX11_fallAll 28 = .ok (.iload 4, 2) := by decide +kernel
theorem dX11_fallAll_30 : decode cX11_fallAll 30 = .ok (.iload_n 2, 1) := by decide +kernel
theorem dX11_fallAll_31 : decode cX11_fallAll 31 = .ok (.invokevirtual 320, 3) := by decide +kernel
theorem dX11_fallAll_34 : decode cX11_fallAll 34 = .ok (.ifCond .eq 34, 3) := by decide +kernel
theorem dX11_fallAll_37 : decode cX11_fallAll 37 = .ok (.iload_n 1, 1) := by decide +kernel
theorem dX11_fallAll_38 : decode cX11_fallAll 38 = .ok (.ifCond .ne 23, 3) := by decide +kernel
theorem dX11_fallAll_41 : decode cX11_fallAll 41 = .ok (.aload_n 0, 1) := by decide +kernel
theorem dX11_fallAll_42 : decode cX11_fallAll 42 = .ok (.getfield 9, 3) := by decide +kernel
theorem dX11_fallAll_45 : decode cX11_fallAll 45 = .ok (.bipush 32, 2) := by decide +kernel
theorem dX11_fallAll_47 : decode cX11_fallAll 47 = .ok (.iload 4, 2) := by decide +kernel
theorem dX11_fallAll_49 : decode cX11_fallAll 49 = .ok (.iadd, 1) := by decide +kernel
theorem dX11_fallAll_50 : decode cX11_fallAll 50 = .ok (.iaload, 1) := by decide +kernel
theorem dX11_fallAll_51 : decode cX11_fallAll 51 = .ok (.aload_n 0, 1) := by decide +kernel
theorem dX11_fallAll_52 : decode cX11_fallAll 52 = .ok (.getfield 9, 3) := by decide +kernel
theorem dX11_fallAll_55 : decode cX11_fallAll 55 = .ok (.bipush 40, 2) := by decide +kernel
theorem dX11_fallAll_57 : decode cX11_fallAll 57 = .ok (.iaload, 1) := by decide +kernel
theorem dX11_fallAll_58 : decode cX11_fallAll 58 = .ok (.if_icmp .gt 10, 3) := by decide +kernel
theorem dX11_fallAll_61 : decode cX11_fallAll 61 = .ok (.iconst 1, 1) := by decide +kernel
theorem dX11_fallAll_62 : decode cX11_fallAll 62 = .ok (.iload 4, 2) := by decide +kernel
theorem dX11_fallAll_64 : decode cX11_fallAll 64 = .ok (.ishl, 1) := by decide +kernel
theorem dX11_fallAll_65 : decode cX11_fallAll 65 = .ok (.goto 4, 3) := by decide +kernel
theorem dX11_fallAll_68 : decode cX11_fallAll 68 = .ok (.iconst 0, 1) := by decide +kernel
theorem dX11_fallAll_69 : decode cX11_fallAll 69 = .ok (.ior, 1) := by decide +kernel
theorem dX11_fallAll_70 : decode cX11_fallAll 70 = .ok (.istore_n 3, 1) := by decide +kernel
theorem dX11_fallAll_71 : decode cX11_fallAll 71 = .ok (.iinc 4 1, 3) := by decide +kernel
theorem dX11_fallAll_74 : decode cX11_fallAll 74 = .ok (.goto (-57), 3) := by decide +kernel
theorem dX11_fallAll_77 : decode cX11_fallAll 77 = .ok (.aload_n 0, 1) := by decide +kernel
theorem dX11_fallAll_78 : decode cX11_fallAll 78 = .ok (.iload_n 2, 1) := by decide +kernel
theorem dX11_fallAll_79 : decode cX11_fallAll 79 = .ok (.iload_n 3, 1) := by decide +kernel
theorem dX11_fallAll_80 : decode cX11_fallAll 80 = .ok (.invokevirtual 348, 3) := by decide +kernel
theorem dX11_fallAll_83 : decode cX11_fallAll 83 = .ok (.iinc 2 1, 3) := by decide +kernel
theorem dX11_fallAll_86 : decode cX11_fallAll 86 = .ok (.goto (-84), 3) := by decide +kernel
theorem dX11_fallAll_89 : decode cX11_fallAll 89 = .ok (.return_, 1) := by decide +kernel
theorem dX11_goesTo_0 : decode cX11_goesTo 0 = .ok (.aload_n 0, 1) := by decide +kernel
theorem dX11_goesTo_1 : decode cX11_goesTo 1 = .ok (.getfield 9, 3) := by decide +kernel
theorem dX11_goesTo_4 : decode cX11_goesTo 4 = .ok (.bipush 40, 2) := by decide +kernel
theorem dX11_goesTo_6 : decode cX11_goesTo 6 = .ok (.iload_n 1, 1) := by decide +kernel
theorem dX11_goesTo_7 : decode cX11_goesTo 7 = .ok (.iastore, 1) := by decide +kernel
theorem dX11_goesTo_8 : decode cX11_goesTo 8 = .ok (.aload_n 0, 1) := by decide +kernel
theorem dX11_goesTo_9 : decode cX11_goesTo 9 = .ok (.iconst 0, 1) := by decide +kernel
theorem dX11_goesTo_10 : decode cX11_goesTo 10 = .ok (.putfield 339, 3) := by decide +kernel
theorem dX11_goesTo_13 : decode cX11_goesTo 13 = .ok (.aload_n 0, 1) := by decide +kernel
theorem dX11_goesTo_14 : decode cX11_goesTo 14 = .ok (.iconst 0, 1) := by decide +kernel
theorem dX11_goesTo_15 : decode cX11_goesTo 15 = .ok (.putfield 342, 3) := by decide +kernel
theorem dX11_goesTo_18 : decode cX11_goesTo 18 = .ok (.aload_n 0, 1) := by decide +kernel
theorem dX11_goesTo_19 : decode cX11_goesTo 19 = .ok (.iconst 0, 1) := by decide +kernel
theorem dX11_goesTo_20 : decode cX11_goesTo 20 = .ok (.invokevirtual 351, 3) := by decide +kernel
theorem dX11_goesTo_23 : decode cX11_goesTo 23 = .ok (.return_, 1) := by decide +kernel
theorem dX11_hour_0 : decode cX11_hour 0 = .ok (.aload_n 0, 1) := by decide +kernel
theorem dX11_hour_1 : decode cX11_hour 1 = .ok (.aload_n 0, 1) := by decide +kernel
theorem dX11_hour_2 : decode cX11_hour 2 = .ok (.getfield 9, 3) := by decide +kernel
theorem dX11_hour_5 : decode cX11_hour 5 = .ok (.bipush 40, 2) := by decide +kernel
theorem dX11_hour_7 : decode cX11_hour 7 = .ok (.iaload, 1) := by decide +kernel
theorem dX11_hour_8 : decode cX11_hour 8 = .ok (.iconst 1, 1) := by decide +kernel
theorem dX11_hour_9 : decode cX11_hour 9 = .ok (.iadd, 1) := by decide +kernel
theorem dX11_hour_10 : decode cX11_hour 10 = .ok (.invokevirtual 355, 3) := by decide +kernel
theorem dX11_hour_13 : decode cX11_hour 13 = .ok (.return_, 1) := by decide +kernel
theorem dX11_nextHour_0 : decode cX11_nextHour 0 = .ok (.ldc_w 358, 3) := by decide +kernel
theorem dX11_nextHour_3 : decode cX11_nextHour 3 = .ok (.istore_n 1, 1) := by decide +kernel
theorem dX11_nextHour_4 : decode cX11_nextHour 4 = .ok (.iconst 0, 1) := by decide +kernel
theorem dX11_nextHour_5 : decode cX11_nextHour 5 = .ok (.istore_n 2, 1) := by decide +kernel
theorem dX11_nextHour_6 : decode cX11_nextHour 6 = .ok (.iload_n 2, 1) := by decide +kernel
theorem dX11_nextHour_7 : decode cX11_nextHour 7 = .ok (.aload_n 0, 1) := by decide +kernel
theorem dX11_nextHour_8 : decode cX11_nextHour 8 = .ok (.invokevirtual 280, 3) := by decide +kernel
theorem dX11_nextHour_11 : decode cX11_nextHour 11 = .ok (.if_icmp .ge 32, 3) := by decide +kernel
theorem dX11_nextHour_14 : decode cX11_nextHour 14 = .ok (.aload_n 0, 1) := by decide +kernel
theorem dX11_nextHour_15 : decode cX11_nextHour 15 = .ok (.iload_n 2, 1) := by decide +kernel
theorem dX11_nextHour_16 : decode cX11_nextHour 16 = .ok (.iconst 1, 1) := by decide +kernel
theorem dX11_nextHour_17 : decode cX11_nextHour 17 = .ok (.invokevirtual 283, 3) := by decide +kernel
theorem dX11_nextHour_20 : decode cX11_nextHour 20 = .ok (.ifCond .eq 17, 3) := by decide +kernel
theorem dX11_nextHour_23 : decode cX11_nextHour 23 = .ok (.iload_n 1, 1) := by decide +kernel
theorem dX11_nextHour_24 : decode cX11_nextHour 24 = .ok (.aload_n 0, 1) := by decide +kernel
theorem dX11_nextHour_25 : decode cX11_nextHour 25 = .ok (.getfield 9, 3) := by decide +kernel
theorem dX11_nextHour_28 : decode cX11_nextHour 28 = .ok (.bipush 32, 2) := by decide +kernel
theorem dX11_nextHour_30 : decode cX11_nextHour 30 = .ok (.iload_n 2, 1) := by decide +kernel
theorem dX11_nextHour_31 : decode cX11_nextHour 31 = .ok (.iadd, 1) := by decide +kernel
theorem dX11_nextHour_32 : decode cX11_nextHour 32 = .ok (.iaload, 1) := by decide +kernel
theorem dX11_nextHour_33 : decode cX11_nextHour 33 = .ok (.invokestatic 316, 3) := by decide +kernel
theorem dX11_nextHour_36 : decode cX11_nextHour 36 = .ok (.istore_n 1, 1) := by decide +kernel
theorem dX11_nextHour_37 : decode cX11_nextHour 37 = .ok (.iinc 2 1, 3) := by decide +kernel
theorem dX11_nextHour_40 : decode cX11_nextHour 40 = .ok (.goto (-34), 3) := by decide +kernel
theorem dX11_nextHour_43 : decode cX11_nextHour 43 = .ok (.iload_n 1, 1) := by decide +kernel
theorem dX11_nextHour_44 : decode cX11_nextHour 44 = .ok (.ireturn, 1) := by decide +kernel
theorem dX11_lets_0 : decode cX11_lets 0 = .ok (.aload_n 0, 1) := by decide +kernel
theorem dX11_lets_1 : decode cX11_lets 1 = .ok (.aload_n 0, 1) := by decide +kernel
theorem dX11_lets_2 : decode cX11_lets 2 = .ok (.getfield 9, 3) := by decide +kernel
theorem dX11_lets_5 : decode cX11_lets 5 = .ok (.bipush 40, 2) := by decide +kernel
theorem dX11_lets_7 : decode cX11_lets 7 = .ok (.iaload, 1) := by decide +kernel
theorem dX11_lets_8 : decode cX11_lets 8 = .ok (.aload_n 0, 1) := by decide +kernel
theorem dX11_lets_9 : decode cX11_lets 9 = .ok (.getfield 9, 3) := by decide +kernel
theorem dX11_lets_12 : decode cX11_lets 12 = .ok (.bipush 32, 2) := by decide +kernel
theorem dX11_lets_14 : decode cX11_lets 14 = .ok (.iload_n 1, 1) := by decide +kernel
theorem dX11_lets_15 : decode cX11_lets 15 = .ok (.iadd, 1) := by decide +kernel
theorem dX11_lets_16 : decode cX11_lets 16 = .ok (.iaload, 1) := by decide +kernel
theorem dX11_lets_17 : decode cX11_lets 17 = .ok (.isub, 1) := by decide +kernel
theorem dX11_lets_18 : decode cX11_lets 18 = .ok (.aload_n 0, 1) := by decide +kernel
theorem dX11_lets_19 : decode cX11_lets 19 = .ok (.getfield 9, 3) := by decide +kernel
theorem dX11_lets_22 : decode cX11_lets 22 = .ok (.bipush 45, 2) := by decide +kernel
theorem dX11_lets_24 : decode cX11_lets 24 = .ok (.iload_n 1, 1) := by decide +kernel
theorem dX11_lets_25 : decode cX11_lets 25 = .ok (.iadd, 1) := by decide +kernel
theorem dX11_lets_26 : decode cX11_lets 26 = .ok (.iaload, 1) := by decide +kernel
theorem dX11_lets_27 : decode cX11_lets 27 = .ok (.iload_n 2, 1) := by decide +kernel
theorem dX11_lets_28 : decode cX11_lets 28 = .ok (.iload_n 3, 1) := by decide +kernel
theorem dX11_lets_29 : decode cX11_lets 29 = .ok (.aload_n 0, 1) := by decide +kernel
theorem dX11_lets_30 : decode cX11_lets 30 = .ok (.getfield 9, 3) := by decide +kernel
theorem dX11_lets_33 : decode cX11_lets 33 = .ok (.bipush 40, 2) := by decide +kernel
theorem dX11_lets_35 : decode cX11_lets 35 = .ok (.iaload, 1) := by decide +kernel
theorem dX11_lets_36 : decode cX11_lets 36 = .ok (.invokevirtual 359, 3) := by decide +kernel
theorem dX11_lets_39 : decode cX11_lets 39 = .ok (.istore 4, 2) := by decide +kernel
theorem dX11_lets_41 : decode cX11_lets 41 = .ok (.aload_n 0, 1) := by decide +kernel
theorem dX11_lets_42 : decode cX11_lets 42 = .ok (.getfield 9, 3) := by decide +kernel
theorem dX11_lets_45 : decode cX11_lets 45 = .ok (.bipush 8, 2) := by decide +kernel
theorem dX11_lets_47 : decode cX11_lets 47 = .ok (.iload_n 1, 1) := by decide +kernel
theorem dX11_lets_48 : decode cX11_lets 48 = .ok (.iadd, 1) := by decide +kernel
theorem dX11_lets_49 : decode cX11_lets 49 = .ok (.iconst 1, 1) := by decide +kernel
theorem dX11_lets_50 : decode cX11_lets 50 = .ok (.iastore, 1) := by decide +kernel
theorem dX11_lets_51 : decode cX11_lets 51 = .ok (.aload_n 0, 1) := by decide +kernel
theorem dX11_lets_52 : decode cX11_lets 52 = .ok (.getfield 9, 3) := by decide +kernel
theorem dX11_lets_55 : decode cX11_lets 55 = .ok (.bipush 16, 2) := by decide +kernel
theorem dX11_lets_57 : decode cX11_lets 57 = .ok (.iload_n 1, 1) := by decide +kernel
theorem dX11_lets_58 : decode cX11_lets 58 = .ok (.iadd, 1) := by decide +kernel
theorem dX11_lets_59 : decode cX11_lets 59 = .ok (.iload_n 2, 1) := by decide +kernel
theorem dX11_lets_60 : decode cX11_lets 60 = .ok (.iastore, 1) := by decide +kernel
theorem dX11_lets_61 : decode cX11_lets 61 = .ok (.aload_n 0, 1) := by decide +kernel
theorem dX11_lets_62 : decode cX11_lets 62 = .ok (.getfield 9, 3) := by decide +kernel
theorem dX11_lets_65 : decode cX11_lets 65 = .ok (.bipush 24, 2) := by decide +kernel
theorem dX11_lets_67 : decode cX11_lets 67 = .ok (.iload_n 1, 1) := by decide +kernel
theorem dX11_lets_68 : decode cX11_lets 68 = .ok (.iadd, 1) := by decide +kernel
theorem dX11_lets_69 : decode cX11_lets 69 = .ok (.iload_n 3, 1) := by decide +kernel
theorem dX11_lets_70 : decode cX11_lets 70 = .ok (.iastore, 1) := by decide +kernel
theorem dX11_lets_71 : decode cX11_lets 71 = .ok (.aload_n 0, 1) := by decide +kernel
theorem dX11_lets_72 : decode cX11_lets 72 = .ok (.getfield 9, 3) := by decide +kernel
theorem dX11_lets_75 : decode cX11_lets 75 = .ok (.bipush 32, 2) := by decide +kernel
theorem dX11_lets_77 : decode cX11_lets 77 = .ok (.iload_n 1, 1) := by decide +kernel
theorem dX11_lets_78 : decode cX11_lets 78 = .ok (.iadd, 1) := by decide +kernel
theorem dX11_lets_79 : decode cX11_lets 79 = .ok (.aload_n 0, 1) := by decide +kernel
theorem dX11_lets_80 : decode cX11_lets 80 = .ok (.getfield 9, 3) := by decide +kernel
theorem dX11_lets_83 : decode cX11_lets 83 = .ok (.bipush 40, 2) := by decide +kernel
theorem dX11_lets_85 : decode cX11_lets 85 = .ok (.iaload, 1) := by decide +kernel
theorem dX11_lets_86 : decode cX11_lets 86 = .ok (.iload 4, 2) := by decide +kernel
theorem dX11_lets_88 : decode cX11_lets 88 = .ok (.iadd, 1) := by decide +kernel
theorem dX11_lets_89 : decode cX11_lets 89 = .ok (.iastore, 1) := by decide +kernel
theorem dX11_lets_90 : decode cX11_lets 90 = .ok (.aload_n 0, 1) := by decide +kernel
theorem dX11_lets_91 : decode cX11_lets 91 = .ok (.iconst 0, 1) := by decide +kernel
theorem dX11_lets_92 : decode cX11_lets 92 = .ok (.putfield 339, 3) := by decide +kernel
theorem dX11_lets_95 : decode cX11_lets 95 = .ok (.aload_n 0, 1) := by decide +kernel
theorem dX11_lets_96 : decode cX11_lets 96 = .ok (.iconst 0, 1) := by decide +kernel
theorem dX11_lets_97 : decode cX11_lets 97 = .ok (.putfield 342, 3) := by decide +kernel
theorem dX11_lets_100 : decode cX11_lets 100 = .ok (.iload 4, 2) := by decide +kernel
theorem dX11_lets_102 : decode cX11_lets 102 = .ok (.ifCond .ne 11, 3) := by decide +kernel
theorem dX11_lets_105 : decode cX11_lets 105 = .ok (.aload_n 0, 1) := by decide +kernel
theorem dX11_lets_106 : decode cX11_lets 106 = .ok (.iload_n 2, 1) := by decide +kernel
theorem dX11_lets_107 : decode cX11_lets 107 = .ok (.iconst 1, 1) := by decide +kernel
theorem dX11_lets_108 : decode cX11_lets 108 = .ok (.iload_n 1, 1) := by decide +kernel
theorem dX11_lets_109 : decode cX11_lets 109 = .ok (.ishl, 1) := by decide +kernel
theorem dX11_lets_110 : decode cX11_lets 110 = .ok (.invokevirtual 348, 3) := by decide +kernel
theorem dX11_lets_113 : decode cX11_lets 113 = .ok (.iload 4, 2) := by decide +kernel
theorem dX11_lets_115 : decode cX11_lets 115 = .ok (.ireturn, 1) := by decide +kernel
theorem dX11_thing_0 : decode cX11_thing 0 = .ok (.aload_n 0, 1) := by decide +kernel
theorem dX11_thing_1 : decode cX11_thing 1 = .ok (.aload_n 0, 1) := by decide +kernel
theorem dX11_thing_2 : decode cX11_thing 2 = .ok (.iload_n 1, 1) := by decide +kernel
theorem dX11_thing_3 : decode cX11_thing 3 = .ok (.i2l, 1) := by decide +kernel
theorem dX11_thing_4 : decode cX11_thing 4 = .ok (.invokevirtual 363, 3) := by decide +kernel
theorem dX11_thing_7 : decode cX11_thing 7 = .ok (.ifCond .ne 7, 3) := by decide +kernel
theorem dX11_thing_10 : decode cX11_thing 10 = .ok (.iconst 1, 1) := by decide +kernel
theorem dX11_thing_11 : decode cX11_thing 11 = .ok (.goto 20, 3) := by decide +kernel
theorem dX11_thing_14 : decode cX11_thing 14 = .ok (.iload_n 2, 1) := by decide +kernel
theorem dX11_thing_15 : decode cX11_thing 15 = .ok (.i2l, 1) := by decide +kernel
theorem dX11_thing_16 : decode cX11_thing 16 = .ok (.lconst 0, 1) := by decide +kernel
theorem dX11_thing_17 : decode cX11_thing 17 = .ok (.ldc2_w 366, 3) := by decide +kernel
theorem dX11_thing_20 : decode cX11_thing 20 = .ok (.invokestatic 131, 3) := by decide +kernel
theorem dX11_thing_23 : decode cX11_thing 23 = .ok (.ifCond .eq 7, 3) := by decide +kernel
theorem dX11_thing_26 : decode cX11_thing 26 = .ok (.iconst 0, 1) := by decide +kernel
theorem dX11_thing_27 : decode cX11_thing 27 = .ok (.goto 4, 3) := by decide +kernel
theorem dX11_thing_30 : decode cX11_thing 30 = .ok (.iconst 2, 1) := by decide +kernel
theorem dX11_thing_31 : decode cX11_thing 31 = .ok (.putfield 70, 3) := by decide +kernel
theorem dX11_thing_34 : decode cX11_thing 34 = .ok (.aload_n 0, 1) := by decide +kernel
theorem dX11_thing_35 : decode cX11_thing 35 = .ok (.getfield 70, 3) := by decide +kernel
theorem dX11_thing_38 : decode cX11_thing 38 = .ok (.ifCond .le 5, 3) := by decide +kernel
theorem dX11_thing_41 : decode cX11_thing 41 = .ok (.iconst 0, 1) := by decide +kernel
theorem dX11_thing_42 : decode cX11_thing 42 = .ok (.ireturn, 1) := by decide +kernel
theorem dX11_thing_43 : decode cX11_thing 43 = .ok (.iload_n 2, 1) := by decide +kernel
theorem dX11_thing_44 : decode cX11_thing 44 = .ok (.tableswitch 133 0 4 #[36, 46, 56, 79, 102], 36) := by decide +kernel
theorem dX11_thing_80 : decode cX11_thing 80 = .ok (.aload_n 0, 1) := by decide +kernel
theorem dX11_thing_81 : decode cX11_thing 81 = .ok (.getfield 9, 3) := by decide +kernel
theorem dX11_thing_84 : decode cX11_thing 84 = .ok (.bipush 45, 2) := by decide +kernel
theorem dX11_thing_86 : decode cX11_thing 86 = .ok (.iload_n 1, 1) := by decide +kernel
theorem dX11_thing_87 : decode cX11_thing 87 = .ok (.iadd, 1) := by decide +kernel
theorem dX11_thing_88 : decode cX11_thing 88 = .ok (.iaload, 1) := by decide +kernel
theorem dX11_thing_89 : decode cX11_thing 89 = .ok (.ireturn, 1) := by decide +kernel
theorem dX11_thing_90 : decode cX11_thing 90 = .ok (.aload_n 0, 1) := by decide +kernel
theorem dX11_thing_91 : decode cX11_thing 91 = .ok (.getfield 9, 3) := by decide +kernel
theorem dX11_thing_94 : decode cX11_thing 94 = .ok (.bipush 8, 2) := by decide +kernel
theorem dX11_thing_96 : decode cX11_thing 96 = .ok (.iload_n 1, 1) := by decide +kernel
theorem dX11_thing_97 : decode cX11_thing 97 = .ok (.iadd, 1) := by decide +kernel
theorem dX11_thing_98 : decode cX11_thing 98 = .ok (.iaload, 1) := by decide +kernel
theorem dX11_thing_99 : decode cX11_thing 99 = .ok (.ireturn, 1) := by decide +kernel
theorem dX11_thing_100 : decode cX11_thing 100 = .ok (.aload_n 0, 1) := by decide +kernel
theorem dX11_thing_101 : decode cX11_thing 101 = .ok (.iload_n 1, 1) := by decide +kernel
theorem dX11_thing_102 : decode cX11_thing 102 = .ok (.iconst 0, 1) := by decide +kernel
theorem dX11_thing_103 : decode cX11_thing 103 = .ok (.invokevirtual 283, 3) := by decide +kernel
theorem dX11_thing_106 : decode cX11_thing 106 = .ok (.ifCond .eq 7, 3) := by decide +kernel
theorem dX11_thing_109 : decode cX11_thing 109 = .ok (.iconst (-1), 1) := by decide +kernel
theorem dX11_thing_110 : decode cX11_thing 110 = .ok (.goto 12, 3) := by decide +kernel
theorem dX11_thing_113 : decode cX11_thing 113 = .ok (.aload_n 0, 1) := by decide +kernel
theorem dX11_thing_114 : decode cX11_thing 114 = .ok (.getfield 9, 3) := by decide +kernel
theorem dX11_thing_117 : decode cX11_thing 117 = .ok (.bipush 16, 2) := by decide +kernel
theorem dX11_thing_119 : decode cX11_thing 119 = .ok (.iload_n 1, 1) := by decide +kernel
theorem dX11_thing_120 : decode cX11_thing 120 = .ok (.iadd, 1) := by decide +kernel
theorem dX11_thing_121 : decode cX11_thing 121 = .ok (.iaload, 1) := by decide +kernel
theorem dX11_thing_122 : decode cX11_thing 122 = .ok (.ireturn, 1) := by decide +kernel
theorem dX11_thing_123 : decode cX11_thing 123 = .ok (.aload_n 0, 1) := by decide +kernel
theorem dX11_thing_124 : decode cX11_thing 124 = .ok (.iload_n 1, 1) := by decide +kernel
theorem dX11_thing_125 : decode cX11_thing 125 = .ok (.iconst 0, 1) := by decide +kernel
theorem dX11_thing_126 : decode cX11_thing 126 = .ok (.invokevirtual 283, 3) := by decide +kernel
theorem dX11_thing_129 : decode cX11_thing 129 = .ok (.ifCond .eq 7, 3) := by decide +kernel
theorem dX11_thing_132 : decode cX11_thing 132 = .ok (.iconst (-1), 1) := by decide +kernel
theorem dX11_thing_133 : decode cX11_thing 133 = .ok (.goto 12, 3) := by decide +kernel
theorem dX11_thing_136 : decode cX11_thing 136 = .ok (.aload_n 0, 1) := by decide +kernel
theorem dX11_thing_137 : decode cX11_thing 137 = .ok (.getfield 9, 3) := by decide +kernel
theorem dX11_thing_140 : decode cX11_thing 140 = .ok (.bipush 24, 2) := by decide +kernel
theorem dX11_thing_142 : decode cX11_thing 142 = .ok (.iload_n 1, 1) := by decide +kernel
theorem dX11_thing_143 : decode cX11_thing 143 = .ok (.iadd, 1) := by decide +kernel
theorem dX11_thing_144 : decode cX11_thing 144 = .ok (.iaload, 1) := by decide +kernel
theorem dX11_thing_145 : decode cX11_thing 145 = .ok (.ireturn, 1) := by decide +kernel
theorem dX11_thing_146 : decode cX11_thing 146 = .ok (.aload_n 0, 1) := by decide +kernel
theorem dX11_thing_147 : decode cX11_thing 147 = .ok (.iload_n 1, 1) := by decide +kernel
theorem dX11_thing_148 : decode cX11_thing 148 = .ok (.iconst 0, 1) := by decide +kernel
theorem dX11_thing_149 : decode cX11_thing 149 = .ok (.invokevirtual 283, 3) := by decide +kernel
theorem dX11_thing_152 : decode cX11_thing 152 = .ok (.ifCond .eq 23, 3) := by decide +kernel
theorem dX11_thing_155 : decode cX11_thing 155 = .ok (.aload_n 0, 1) := by decide +kernel
theorem dX11_thing_156 : decode cX11_thing 156 = .ok (.getfield 9, 3) := by decide +kernel
theorem dX11_thing_159 : decode cX11_thing 159 = .ok (.bipush 40, 2) := by decide +kernel
theorem dX11_thing_161 : decode cX11_thing 161 = .ok (.iaload, 1) := by decide +kernel
theorem dX11_thing_162 : decode cX11_thing 162 = .ok (.aload_n 0, 1) := by decide +kernel
theorem dX11_thing_163 : decode cX11_thing 163 = .ok (.getfield 9, 3) := by decide +kernel
theorem dX11_thing_166 : decode cX11_thing 166 = .ok (.bipush 32, 2) := by decide +kernel
theorem dX11_thing_168 : decode cX11_thing 168 = .ok (.iload_n 1, 1) := by decide +kernel
theorem dX11_thing_169 : decode cX11_thing 169 = .ok (.iadd, 1) := by decide +kernel
theorem dX11_thing_170 : decode cX11_thing 170 = .ok (.iaload, 1) := by decide +kernel
theorem dX11_thing_171 : decode cX11_thing 171 = .ok (.isub, 1) := by decide +kernel
theorem dX11_thing_172 : decode cX11_thing 172 = .ok (.goto 4, 3) := by decide +kernel
theorem dX11_thing_175 : decode cX11_thing 175 = .ok (.iconst (-1), 1) := by decide +kernel
theorem dX11_thing_176 : decode cX11_thing 176 = .ok (.ireturn, 1) := by decide +kernel
theorem dX11_thing_177 : decode cX11_thing 177 = .ok (.aload_n 0, 1) := by decide +kernel
theorem dX11_thing_178 : decode cX11_thing 178 = .ok (.iload_n 1, 1) := by decide +kernel
theorem dX11_thing_179 : decode cX11_thing 179 = .ok (.iconst 1, 1) := by decide +kernel
theorem dX11_thing_180 : decode cX11_thing 180 = .ok (.invokevirtual 283, 3) := by decide +kernel
theorem dX11_thing_183 : decode cX11_thing 183 = .ok (.ifCond .eq 23, 3) := by decide +kernel
theorem dX11_thing_186 : decode cX11_thing 186 = .ok (.aload_n 0, 1) := by decide +kernel
theorem dX11_thing_187 : decode cX11_thing 187 = .ok (.getfield 9, 3) := by decide +kernel
theorem dX11_thing_190 : decode cX11_thing 190 = .ok (.bipush 32, 2) := by decide +kernel
theorem dX11_thing_192 : decode cX11_thing 192 = .ok (.iload_n 1, 1) := by decide +kernel
theorem dX11_thing_193 : decode cX11_thing 193 = .ok (.iadd, 1) := by decide +kernel
theorem dX11_thing_194 : decode cX11_thing 194 = .ok (.iaload, 1) := by decide +kernel
theorem dX11_thing_195 : decode cX11_thing 195 = .ok (.aload_n 0, 1) := by decide +kernel
theorem dX11_thing_196 : decode cX11_thing 196 = .ok (.getfield 9, 3) := by decide +kernel
theorem dX11_thing_199 : decode cX11_thing 199 = .ok (.bipush 40, 2) := by decide +kernel
theorem dX11_thing_201 : decode cX11_thing 201 = .ok (.iaload, 1) := by decide +kernel
theorem dX11_thing_202 : decode cX11_thing 202 = .ok (.isub, 1) := by decide +kernel
theorem dX11_thing_203 : decode cX11_thing 203 = .ok (.goto 4, 3) := by decide +kernel
theorem dX11_thing_206 : decode cX11_thing 206 = .ok (.iconst (-1), 1) := by decide +kernel
theorem dX11_thing_207 : decode cX11_thing 207 = .ok (.ireturn, 1) := by decide +kernel
theorem dX11_walker_0 : decode cX11_walker 0 = .ok (.aload_n 0, 1) := by decide +kernel
theorem dX11_walker_1 : decode cX11_walker 1 = .ok (.aload_n 0, 1) := by decide +kernel
theorem dX11_walker_2 : decode cX11_walker 2 = .ok (.iload_n 1, 1) := by decide +kernel
theorem dX11_walker_3 : decode cX11_walker 3 = .ok (.invokevirtual 368, 3) := by decide +kernel
theorem dX11_walker_6 : decode cX11_walker 6 = .ok (.ifCond .ne 7, 3) := by decide +kernel
theorem dX11_walker_9 : decode cX11_walker 9 = .ok (.iconst 1, 1) := by decide +kernel
theorem dX11_walker_10 : decode cX11_walker 10 = .ok (.goto 20, 3) := by decide +kernel
theorem dX11_walker_13 : decode cX11_walker 13 = .ok (.iload_n 2, 1) := by decide +kernel
theorem dX11_walker_14 : decode cX11_walker 14 = .ok (.i2l, 1) := by decide +kernel
theorem dX11_walker_15 : decode cX11_walker 15 = .ok (.lconst 0, 1) := by decide +kernel
theorem dX11_walker_16 : decode cX11_walker 16 = .ok (.ldc2_w 371, 3) := by decide +kernel
theorem dX11_walker_19 : decode cX11_walker 19 = .ok (.invokestatic 131, 3) := by decide +kernel
theorem dX11_walker_22 : decode cX11_walker 22 = .ok (.ifCond .eq 7, 3) := by decide +kernel
theorem dX11_walker_25 : decode cX11_walker 25 = .ok (.iconst 0, 1) := by decide +kernel
theorem dX11_walker_26 : decode cX11_walker 26 = .ok (.goto 4, 3) := by decide +kernel
theorem dX11_walker_29 : decode cX11_walker 29 = .ok (.iconst 2, 1) := by decide +kernel
theorem dX11_walker_30 : decode cX11_walker 30 = .ok (.putfield 70, 3) := by decide +kernel
theorem dX11_walker_33 : decode cX11_walker 33 = .ok (.aload_n 0, 1) := by decide +kernel
theorem dX11_walker_34 : decode cX11_walker 34 = .ok (.getfield 70, 3) := by decide +kernel
theorem dX11_walker_37 : decode cX11_walker 37 = .ok (.ifCond .le 5, 3) := by decide +kernel
theorem dX11_walker_40 : decode cX11_walker 40 = .ok (.iconst 0, 1) := by decide +kernel
theorem dX11_walker_41 : decode cX11_walker 41 = .ok (.ireturn, 1) := by decide +kernel
theorem dX11_walker_42 : decode cX11_walker 42 = .ok (.iload_n 2, 1) := by decide +kernel
theorem dX11_walker_43 : decode cX11_walker 43 = .ok (.ifCond .ne 18, 3) := by decide +kernel
theorem dX11_walker_46 : decode cX11_walker 46 = .ok (.aload_n 0, 1) := by decide +kernel
theorem dX11_walker_47 : decode cX11_walker 47 = .ok (.iload_n 1, 1) := by decide +kernel
theorem dX11_walker_48 : decode cX11_walker 48 = .ok (.aload_n 0, 1) := by decide +kernel
theorem dX11_walker_49 : decode cX11_walker 49 = .ok (.getfield 9, 3) := by decide +kernel
theorem dX11_walker_52 : decode cX11_walker 52 = .ok (.bipush 40, 2) := by decide +kernel
theorem dX11_walker_54 : decode cX11_walker 54 = .ok (.iaload, 1) := by decide +kernel
theorem dX11_walker_55 : decode cX11_walker 55 = .ok (.invokevirtual 345, 3) := by decide +kernel
theorem dX11_walker_58 : decode cX11_walker 58 = .ok (.goto 29, 3) := by decide +kernel
theorem dX11_walker_61 : decode cX11_walker 61 = .ok (.iload_n 2, 1) := by decide +kernel
theorem dX11_walker_62 : decode cX11_walker 62 = .ok (.iconst 1, 1) := by decide +kernel
theorem dX11_walker_63 : decode cX11_walker 63 = .ok (.if_icmp .ne 15, 3) := by decide +kernel
theorem dX11_walker_66 : decode cX11_walker 66 = .ok (.aload_n 0, 1) := by decide +kernel
theorem dX11_walker_67 : decode cX11_walker 67 = .ok (.getfield 9, 3) := by decide +kernel
theorem dX11_walker_70 : decode cX11_walker 70 = .ok (.bipush 41, 2) := by decide +kernel
theorem dX11_walker_72 : decode cX11_walker 72 = .ok (.iload_n 1, 1) := by decide +kernel
theorem dX11_walker_73 : decode cX11_walker 73 = .ok (.iadd, 1) := by decide +kernel
theorem dX11_walker_74 : decode cX11_walker 74 = .ok (.iaload, 1) := by decide +kernel
theorem dX11_walker_75 : decode cX11_walker 75 = .ok (.goto 12, 3) := by decide +kernel
theorem dX11_walker_78 : decode cX11_walker 78 = .ok (.aload_n 0, 1) := by decide +kernel
theorem dX11_walker_79 : decode cX11_walker 79 = .ok (.getfield 9, 3) := by decide +kernel
theorem dX11_walker_82 : decode cX11_walker 82 = .ok (.bipush 53, 2) := by decide +kernel
theorem dX11_walker_84 : decode cX11_walker 84 = .ok (.iload_n 1, 1) := by decide +kernel
theorem dX11_walker_85 : decode cX11_walker 85 = .ok (.iadd, 1) := by decide +kernel
theorem dX11_walker_86 : decode cX11_walker 86 = .ok (.iaload, 1) := by decide +kernel
theorem dX11_walker_87 : decode cX11_walker 87 = .ok (.ireturn, 1) := by decide +kernel
theorem dX11_height_0 : decode cX11_height 0 = .ok (.aload_n 0, 1) := by decide +kernel
theorem dX11_height_1 : decode cX11_height 1 = .ok (.iconst 0, 1) := by decide +kernel
theorem dX11_height_2 : decode cX11_height 2 = .ok (.putfield 70, 3) := by decide +kernel
theorem dX11_height_5 : decode cX11_height 5 = .ok (.aload_n 0, 1) := by decide +kernel
theorem dX11_height_6 : decode cX11_height 6 = .ok (.iload_n 1, 1) := by decide +kernel
theorem dX11_height_7 : decode cX11_height 7 = .ok (.i2l, 1) := by decide +kernel
theorem dX11_height_8 : decode cX11_height 8 = .ok (.invokevirtual 286, 3) := by decide +kernel
theorem dX11_height_11 : decode cX11_height 11 = .ok (.ifCond .eq 11, 3) := by decide +kernel
theorem dX11_height_14 : decode cX11_height 14 = .ok (.aload_n 0, 1) := by decide +kernel
theorem dX11_height_15 : decode cX11_height 15 = .ok (.iload_n 1, 1) := by decide +kernel
theorem dX11_height_16 : decode cX11_height 16 = .ok (.invokevirtual 311, 3) := by decide +kernel
theorem dX11_height_19 : decode cX11_height 19 = .ok (.goto 8, 3) := by decide +kernel
theorem dX11_height_22 : decode cX11_height 22 = .ok (.aload_n 0, 1) := by decide +kernel
theorem dX11_height_23 : decode cX11_height 23 = .ok (.iconst 1, 1) := by decide +kernel
theorem dX11_height_24 : decode cX11_height 24 = .ok (.invokevirtual 269, 3) := by decide +kernel
theorem dX11_height_27 : decode cX11_height 27 = .ok (.ireturn, 1) := by decide +kernel
theorem dX11_at_0 : decode cX11_at 0 = .ok (.aload_n 0, 1) := by decide +kernel
theorem dX11_at_1 : decode cX11_at 1 = .ok (.iconst 0, 1) := by decide +kernel
theorem dX11_at_2 : decode cX11_at 2 = .ok (.putfield 70, 3) := by decide +kernel
theorem dX11_at_5 : decode cX11_at 5 = .ok (.aload_n 0, 1) := by decide +kernel
theorem dX11_at_6 : decode cX11_at 6 = .ok (.iload_n 1, 1) := by decide +kernel
theorem dX11_at_7 : decode cX11_at 7 = .ok (.i2l, 1) := by decide +kernel
theorem dX11_at_8 : decode cX11_at 8 = .ok (.iload_n 2, 1) := by decide +kernel
theorem dX11_at_9 : decode cX11_at 9 = .ok (.i2l, 1) := by decide +kernel
theorem dX11_at_10 : decode cX11_at 10 = .ok (.invokevirtual 373, 3) := by decide +kernel
theorem dX11_at_13 : decode cX11_at 13 = .ok (.ifCond .ne 9, 3) := by decide +kernel
theorem dX11_at_16 : decode cX11_at 16 = .ok (.aload_n 0, 1) := by decide +kernel
theorem dX11_at_17 : decode cX11_at 17 = .ok (.iconst 1, 1) := by decide +kernel
theorem dX11_at_18 : decode cX11_at 18 = .ok (.invokevirtual 269, 3) := by decide +kernel
theorem dX11_at_21 : decode cX11_at 21 = .ok (.ireturn, 1) := by decide +kernel
theorem dX11_at_22 : decode cX11_at 22 = .ok (.iconst 0, 1) := by decide +kernel
theorem dX11_at_23 : decode cX11_at 23 = .ok (.istore_n 3, 1) := by decide +kernel
theorem dX11_at_24 : decode cX11_at 24 = .ok (.iload_n 3, 1) := by decide +kernel
theorem dX11_at_25 : decode cX11_at 25 = .ok (.aload_n 0, 1) := by decide +kernel
theorem dX11_at_26 : decode cX11_at 26 = .ok (.invokevirtual 280, 3) := by decide +kernel
theorem dX11_at_29 : decode cX11_at 29 = .ok (.if_icmp .ge 46, 3) := by decide +kernel
theorem dX11_at_32 : decode cX11_at 32 = .ok (.aload_n 0, 1) := by decide +kernel
theorem dX11_at_33 : decode cX11_at 33 = .ok (.iload_n 3, 1) := by decide +kernel
theorem dX11_at_34 : decode cX11_at 34 = .ok (.iconst 0, 1) := by decide +kernel
theorem dX11_at_35 : decode cX11_at 35 = .ok (.invokevirtual 283, 3) := by decide +kernel
theorem dX11_at_38 : decode cX11_at 38 = .ok (.ifCond .ne 31, 3) := by decide +kernel
theorem dX11_at_41 : decode cX11_at 41 = .ok (.aload_n 0, 1) := by decide +kernel
theorem dX11_at_42 : decode cX11_at 42 = .ok (.getfield 9, 3) := by decide +kernel
theorem dX11_at_45 : decode cX11_at 45 = .ok (.bipush 16, 2) := by decide +kernel
theorem dX11_at_47 : decode cX11_at 47 = .ok (.iload_n 3, 1) := by decide +kernel
theorem dX11_at_48 : decode cX11_at 48 = .ok (.iadd, 1) := by decide +kernel
theorem dX11_at_49 : decode cX11_at 49 = .ok (.iaload, 1) := by decide +kernel
theorem dX11_at_50 : decode cX11_at 50 = .ok (.iload_n 1, 1) := by decide +kernel
theorem dX11_at_51 : decode cX11_at 51 = .ok (.if_icmp .ne 18, 3) := by decide +kernel
theorem dX11_at_54 : decode cX11_at 54 = .ok (.aload_n 0, 1) := by decide +kernel
theorem dX11_at_55 : decode cX11_at 55 = .ok (.getfield 9, 3) := by decide +kernel
theorem dX11_at_58 : decode cX11_at 58 = .ok (.bipush 24, 2) := by decide +kernel
theorem dX11_at_60 : decode cX11_at 60 = .ok (.iload_n 3, 1) := by decide +kernel
theorem dX11_at_61 : decode cX11_at 61 = .ok (.iadd, 1) := by decide +kernel
theorem dX11_at_62 : decode cX11_at 62 = .ok (.iaload, 1) := by decide +kernel
theorem dX11_at_63 : decode cX11_at 63 = .ok (.iload_n 2, 1) := by decide +kernel
theorem dX11_at_64 : decode cX11_at 64 = .ok (.if_icmp .ne 5, 3) := by decide +kernel
theorem dX11_at_67 : decode cX11_at 67 = .ok (.iload_n 3, 1) := by decide +kernel
theorem dX11_at_68 : decode cX11_at 68 = .ok (.ireturn, 1) := by decide +kernel
theorem dX11_at_69 : decode cX11_at 69 = .ok (.iinc 3 1, 3) := by decide +kernel
theorem dX11_at_72 : decode cX11_at 72 = .ok (.goto (-48), 3) := by decide +kernel
theorem dX11_at_75 : decode cX11_at 75 = .ok (.iconst (-1), 1) := by decide +kernel
theorem dX11_at_76 : decode cX11_at 76 = .ok (.ireturn, 1) := by decide +kernel
theorem dX11_hanging_0 : decode cX11_hanging 0 = .ok (.aload_n 0, 1) := by decide +kernel
theorem dX11_hanging_1 : decode cX11_hanging 1 = .ok (.aload_n 0, 1) := by decide +kernel
theorem dX11_hanging_2 : decode cX11_hanging 2 = .ok (.iload_n 1, 1) := by decide +kernel
theorem dX11_hanging_3 : decode cX11_hanging 3 = .ok (.i2l, 1) := by decide +kernel
theorem dX11_hanging_4 : decode cX11_hanging 4 = .ok (.invokevirtual 363, 3) := by decide +kernel
theorem dX11_hanging_7 : decode cX11_hanging 7 = .ok (.ifCond .eq 14, 3) := by decide +kernel
theorem dX11_hanging_10 : decode cX11_hanging 10 = .ok (.aload_n 0, 1) := by decide +kernel
theorem dX11_hanging_11 : decode cX11_hanging 11 = .ok (.iload_n 2, 1) := by decide +kernel
theorem dX11_hanging_12 : decode cX11_hanging 12 = .ok (.i2l, 1) := by decide +kernel
theorem dX11_hanging_13 : decode cX11_hanging 13 = .ok (.iload_n 3, 1) := by decide +kernel
theorem dX11_hanging_14 : decode cX11_hanging 14 = .ok (.i2l, 1) := by decide +kernel
theorem dX11_hanging_15 : decode cX11_hanging 15 = .ok (.invokevirtual 373, 3) := by decide +kernel
theorem dX11_hanging_18 : decode cX11_hanging 18 = .ok (.ifCond .ne 7, 3) := by decide +kernel
theorem dX11_hanging_21 : decode cX11_hanging 21 = .ok (.iconst 1, 1) := by decide +kernel
theorem dX11_hanging_22 : decode cX11_hanging 22 = .ok (.goto 21, 3) := by decide +kernel
theorem dX11_hanging_25 : decode cX11_hanging 25 = .ok (.iload 4, 2) := by decide +kernel
theorem dX11_hanging_27 : decode cX11_hanging 27 = .ok (.i2l, 1) := by decide +kernel
theorem dX11_hanging_28 : decode cX11_hanging 28 = .ok (.lconst 0, 1) := by decide +kernel
theorem dX11_hanging_29 : decode cX11_hanging 29 = .ok (.ldc2_w 377, 3) := by decide +kernel
theorem dX11_hanging_32 : decode cX11_hanging 32 = .ok (.invokestatic 131, 3) := by decide +kernel
theorem dX11_hanging_35 : decode cX11_hanging 35 = .ok (.ifCond .eq 7, 3) := by decide +kernel
theorem dX11_hanging_38 : decode cX11_hanging 38 = .ok (.iconst 0, 1) := by decide +kernel
theorem dX11_hanging_39 : decode cX11_hanging 39 = .ok (.goto 4, 3) := by decide +kernel
theorem dX11_hanging_42 : decode cX11_hanging 42 = .ok (.iconst 2, 1) := by decide +kernel
theorem dX11_hanging_43 : decode cX11_hanging 43 = .ok (.putfield 70, 3) := by decide +kernel
theorem dX11_hanging_46 : decode cX11_hanging 46 = .ok (.aload_n 0, 1) := by decide +kernel
theorem dX11_hanging_47 : decode cX11_hanging 47 = .ok (.getfield 70, 3) := by decide +kernel
theorem dX11_hanging_50 : decode cX11_hanging 50 = .ok (.ifCond .le 7, 3) := by decide +kernel
theorem dX11_hanging_53 : decode cX11_hanging 53 = .ok (.iconst 0, 1) := by decide +kernel
theorem dX11_hanging_54 : decode cX11_hanging 54 = .ok (.goto 27, 3) := by decide +kernel
theorem dX11_hanging_57 : decode cX11_hanging 57 = .ok (.aload_n 0, 1) := by decide +kernel
theorem dX11_hanging_58 : decode cX11_hanging 58 = .ok (.iload 4, 2) := by decide +kernel
theorem dX11_hanging_60 : decode cX11_hanging 60 = .ok (.aload_n 0, 1) := by decide +kernel
theorem dX11_hanging_61 : decode cX11_hanging 61 = .ok (.getfield 9, 3) := by decide +kernel
theorem dX11_hanging_64 : decode cX11_hanging 64 = .ok (.bipush 45, 2) := by decide +kernel
theorem dX11_hanging_66 : decode cX11_hanging 66 = .ok (.iload_n 1, 1) := by decide +kernel
theorem dX11_hanging_67 : decode cX11_hanging 67 = .ok (.iadd, 1) := by decide +kernel
theorem dX11_hanging_68 : decode cX11_hanging 68 = .ok (.iaload, 1) := by decide +kernel
theorem dX11_hanging_69 : decode cX11_hanging 69 = .ok (.iload_n 2, 1) := by decide +kernel
theorem dX11_hanging_70 : decode cX11_hanging 70 = .ok (.iload_n 3, 1) := by decide +kernel
theorem dX11_hanging_71 : decode cX11_hanging 71 = .ok (.aload_n 0, 1) := by decide +kernel
theorem dX11_hanging_72 : decode cX11_hanging 72 = .ok (.getfield 9, 3) := by decide +kernel
theorem dX11_hanging_75 : decode cX11_hanging 75 = .ok (.bipush 40, 2) := by decide +kernel
theorem dX11_hanging_77 : decode cX11_hanging 77 = .ok (.iaload, 1) := by decide +kernel
theorem dX11_hanging_78 : decode cX11_hanging 78 = .ok (.invokevirtual 359, 3) := by decide +kernel
theorem dX11_hanging_81 : decode cX11_hanging 81 = .ok (.ireturn, 1) := by decide +kernel
theorem dX11_keeps_0 : decode cX11_keeps 0 = .ok (.aload_n 0, 1) := by decide +kernel
theorem dX11_keeps_1 : decode cX11_keeps 1 = .ok (.getfield 9, 3) := by decide +kernel
theorem dX11_keeps_4 : decode cX11_keeps 4 = .ok (.bipush 7, 2) := by decide +kernel
theorem dX11_keeps_6 : decode cX11_keeps 6 = .ok (.iaload, 1) := by decide +kernel
theorem dX11_keeps_7 : decode cX11_keeps 7 = .ok (.bipush 10, 2) := by decide +kernel
theorem dX11_keeps_9 : decode cX11_keeps 9 = .ok (.if_icmp .ne 45, 3) := by decide +kernel
theorem dX11_keeps_12 : decode cX11_keeps 12 = .ok (.bipush 89, 2) := by decide +kernel
theorem dX11_keeps_14 : decode cX11_keeps 14 = .ok (.istore_n 1, 1) := by decide +kernel
theorem dX11_keeps_15 : decode cX11_keeps 15 = .ok (.iload_n 1, 1) := by decide +kernel
theorem dX11_keeps_16 : decode cX11_keeps 16 = .ok (.sipush 422, 3) := by decide +kernel
theorem dX11_keeps_19 : decode cX11_keeps 19 = .ok (.if_icmp .ge 24, 3) := by decide +kernel
theorem dX11_keeps_22 : decode cX11_keeps 22 = .ok (.aload_n 0, 1) := by decide +kernel
theorem dX11_keeps_23 : decode cX11_keeps 23 = .ok (.getfield 9, 3) := by decide +kernel
theorem dX11_keeps_26 : decode cX11_keeps 26 = .ok (.iload_n 1, 1) := by decide +kernel
theorem dX11_keeps_27 : decode cX11_keeps 27 = .ok (.aload_n 0, 1) := by decide +kernel
theorem dX11_keeps_28 : decode cX11_keeps 28 = .ok (.getfield 9, 3) := by decide +kernel
theorem dX11_keeps_31 : decode cX11_keeps 31 = .ok (.iload_n 1, 1) := by decide +kernel
theorem dX11_keeps_32 : decode cX11_keeps 32 = .ok (.bipush 37, 2) := by decide +kernel
theorem dX11_keeps_34 : decode cX11_keeps 34 = .ok (.iadd, 1) := by decide +kernel
theorem dX11_keeps_35 : decode cX11_keeps 35 = .ok (.iaload, 1) := by decide +kernel
theorem dX11_keeps_36 : decode cX11_keeps 36 = .ok (.iastore, 1) := by decide +kernel
theorem dX11_keeps_37 : decode cX11_keeps 37 = .ok (.iinc 1 1, 3) := by decide +kernel
theorem dX11_keeps_40 : decode cX11_keeps 40 = .ok (.goto (-25), 3) := by decide +kernel
theorem dX11_keeps_43 : decode cX11_keeps 43 = .ok (.aload_n 0, 1) := by decide +kernel
theorem dX11_keeps_44 : decode cX11_keeps 44 = .ok (.getfield 9, 3) := by decide +kernel
theorem dX11_keeps_47 : decode cX11_keeps 47 = .ok (.bipush 7, 2) := by decide +kernel
theorem dX11_keeps_49 : decode cX11_keeps 49 = .ok (.dup2, 1) := by decide +kernel
theorem dX11_keeps_50 : decode cX11_keeps 50 = .ok (.iaload, 1) := by decide +kernel
theorem dX11_keeps_51 : decode cX11_keeps 51 = .ok (.iconst 1, 1) := by decide +kernel
theorem dX11_keeps_52 : decode cX11_keeps 52 = .ok (.isub, 1) := by decide +kernel
theorem dX11_keeps_53 : decode cX11_keeps 53 = .ok (.iastore, 1) := by decide +kernel
theorem dX11_keeps_54 : decode cX11_keeps 54 = .ok (.iconst 0, 1) := by decide +kernel
theorem dX11_keeps_55 : decode cX11_keeps 55 = .ok (.istore_n 1, 1) := by decide +kernel
theorem dX11_keeps_56 : decode cX11_keeps 56 = .ok (.iload_n 1, 1) := by decide +kernel
theorem dX11_keeps_57 : decode cX11_keeps 57 = .ok (.bipush 37, 2) := by decide +kernel
theorem dX11_keeps_59 : decode cX11_keeps 59 = .ok (.if_icmp .ge 38, 3) := by decide +kernel
theorem dX11_keeps_62 : decode cX11_keeps 62 = .ok (.aload_n 0, 1) := by decide +kernel
theorem dX11_keeps_63 : decode cX11_keeps 63 = .ok (.getfield 9, 3) := by decide +kernel
theorem dX11_keeps_66 : decode cX11_keeps 66 = .ok (.bipush 89, 2) := by decide +kernel
theorem dX11_keeps_68 : decode cX11_keeps 68 = .ok (.bipush 37, 2) := by decide +kernel
theorem dX11_keeps_70 : decode cX11_keeps 70 = .ok (.aload_n 0, 1) := by decide +kernel
theorem dX11_keeps_71 : decode cX11_keeps 71 = .ok (.getfield 9, 3) := by decide +kernel
theorem dX11_keeps_74 : decode cX11_keeps 74 = .ok (.bipush 7, 2) := by decide +kernel
theorem dX11_keeps_76 : decode cX11_keeps 76 = .ok (.iaload, 1) := by decide +kernel
theorem dX11_keeps_77 : decode cX11_keeps 77 = .ok (.imul, 1) := by decide +kernel
theorem dX11_keeps_78 : decode cX11_keeps 78 = .ok (.iadd, 1) := by decide +kernel
theorem dX11_keeps_79 : decode cX11_keeps 79 = .ok (.iload_n 1, 1) := by decide +kernel
theorem dX11_keeps_80 : decode cX11_keeps 80 = .ok (.iadd, 1) := by decide +kernel
theorem dX11_keeps_81 : decode cX11_keeps 81 = .ok (.aload_n 0, 1) := by decide +kernel
theorem dX11_keeps_82 : decode cX11_keeps 82 = .ok (.getfield 9, 3) := by decide +kernel
theorem dX11_keeps_85 : decode cX11_keeps 85 = .ok (.bipush 8, 2) := by decide +kernel
theorem dX11_keeps_87 : decode cX11_keeps 87 = .ok (.iload_n 1, 1) := by decide +kernel
theorem dX11_keeps_88 : decode cX11_keeps 88 = .ok (.iadd, 1) := by decide +kernel
theorem dX11_keeps_89 : decode cX11_keeps 89 = .ok (.iaload, 1) := by decide +kernel
theorem dX11_keeps_90 : decode cX11_keeps 90 = .ok (.iastore, 1) := by decide +kernel
theorem dX11_keeps_91 : decode cX11_keeps 91 = .ok (.iinc 1 1, 3) := by decide +kernel
theorem dX11_keeps_94 : decode cX11_keeps 94 = .ok (.goto (-38), 3) := by decide +kernel
theorem dX11_keeps_97 : decode cX11_keeps 97 = .ok (.aload_n 0, 1) := by decide +kernel
theorem dX11_keeps_98 : decode cX11_keeps 98 = .ok (.getfield 9, 3) := by decide +kernel
theorem dX11_keeps_101 : decode cX11_keeps 101 = .ok (.bipush 7, 2) := by decide +kernel
theorem dX11_keeps_103 : decode cX11_keeps 103 = .ok (.dup2, 1) := by decide +kernel
theorem dX11_keeps_104 : decode cX11_keeps 104 = .ok (.iaload, 1) := by decide +kernel
theorem dX11_keeps_105 : decode cX11_keeps 105 = .ok (.iconst 1, 1) := by decide +kernel
theorem dX11_keeps_106 : decode cX11_keeps 106 = .ok (.iadd, 1) := by decide +kernel
theorem dX11_keeps_107 : decode cX11_keeps 107 = .ok (.iastore, 1) := by decide +kernel
theorem dX11_keeps_108 : decode cX11_keeps 108 = .ok (.return_, 1) := by decide +kernel
theorem dX11_putsAside_0 : decode cX11_putsAside 0 = .ok (.iconst 0, 1) := by decide +kernel
theorem dX11_putsAside_1 : decode cX11_putsAside 1 = .ok (.istore_n 1, 1) := by decide +kernel
theorem dX11_putsAside_2 : decode cX11_putsAside 2 = .ok (.iload_n 1, 1) := by decide +kernel
theorem dX11_putsAside_3 : decode cX11_putsAside 3 = .ok (.bipush 37, 2) := by decide +kernel
theorem dX11_putsAside_5 : decode cX11_putsAside 5 = .ok (.if_icmp .ge 24, 3) := by decide +kernel
theorem dX11_putsAside_8 : decode cX11_putsAside 8 = .ok (.aload_n 0, 1) := by decide +kernel
theorem dX11_putsAside_9 : decode cX11_putsAside 9 = .ok (.getfield 36, 3) := by decide +kernel
theorem dX11_putsAside_12 : decode cX11_putsAside 12 = .ok (.iload_n 1, 1) := by decide +kernel
theorem dX11_putsAside_13 : decode cX11_putsAside 13 = .ok (.aload_n 0, 1) := by decide +kernel
theorem dX11_putsAside_14 : decode cX11_putsAside 14 = .ok (.getfield 9, 3) := by decide +kernel
theorem dX11_putsAside_17 : decode cX11_putsAside 17 = .ok (.bipush 8, 2) := by decide +kernel
theorem dX11_putsAside_19 : decode cX11_putsAside 19 = .ok (.iload_n 1, 1) := by decide +kernel
theorem dX11_putsAside_20 : decode cX11_putsAside 20 = .ok (.iadd, 1) := by decide +kernel
theorem dX11_putsAside_21 : decode cX11_putsAside 21 = .ok (.iaload, 1) := by decide +kernel
theorem dX11_putsAside_22 : decode cX11_putsAside 22 = .ok (.iastore, 1) := by decide +kernel
theorem dX11_putsAside_23 : decode cX11_putsAside 23 = .ok (.iinc 1 1, 3) := by decide +kernel
theorem dX11_putsAside_26 : decode cX11_putsAside 26 = .ok (.goto (-24), 3) := by decide +kernel
theorem dX11_putsAside_29 : decode cX11_putsAside 29 = .ok (.return_, 1) := by decide +kernel
theorem dX11_putsBack_0 : decode cX11_putsBack 0 = .ok (.iconst 0, 1) := by decide +kernel
theorem dX11_putsBack_1 : decode cX11_putsBack 1 = .ok (.istore_n 1, 1) := by decide +kernel
theorem dX11_putsBack_2 : decode cX11_putsBack 2 = .ok (.iload_n 1, 1) := by decide +kernel
theorem dX11_putsBack_3 : decode cX11_putsBack 3 = .ok (.bipush 37, 2) := by decide +kernel
theorem dX11_putsBack_5 : decode cX11_putsBack 5 = .ok (.if_icmp .ge 24, 3) := by decide +kernel
theorem dX11_putsBack_8 : decode cX11_putsBack 8 = .ok (.aload_n 0, 1) := by decide +kernel
theorem dX11_putsBack_9 : decode cX11_putsBack 9 = .ok (.getfield 9, 3) := by decide +kernel
theorem dX11_putsBack_12 : decode cX11_putsBack 12 = .ok (.bipush 8, 2) := by decide +kernel
theorem dX11_putsBack_14 : decode cX11_putsBack 14 = .ok (.iload_n 1, 1) := by decide +kernel
theorem dX11_putsBack_15 : decode cX11_putsBack 15 = .ok (.iadd, 1) := by decide +kernel
theorem dX11_putsBack_16 : decode cX11_putsBack 16 = .ok (.aload_n 0, 1) := by decide +kernel
theorem dX11_putsBack_17 : decode cX11_putsBack 17 = .ok (.getfield 36, 3) := by decide +kernel
theorem dX11_putsBack_20 : decode cX11_putsBack 20 = .ok (.iload_n 1, 1) := by decide +kernel
theorem dX11_putsBack_21 : decode cX11_putsBack 21 = .ok (.iaload, 1) := by decide +kernel
theorem dX11_putsBack_22 : decode cX11_putsBack 22 = .ok (.iastore, 1) := by decide +kernel
theorem dX11_putsBack_23 : decode cX11_putsBack 23 = .ok (.iinc 1 1, 3) := by decide +kernel
theorem dX11_putsBack_26 : decode cX11_putsBack 26 = .ok (.goto (-24), 3) := by decide +kernel
theorem dX11_putsBack_29 : decode cX11_putsBack 29 = .ok (.return_, 1) := by decide +kernel
theorem dX11_whyLet_0 : decode cX11_whyLet 0 = .ok (.aload_n 0, 1) := by decide +kernel
theorem dX11_whyLet_1 : decode cX11_whyLet 1 = .ok (.lload_n 1, 1) := by decide +kernel
theorem dX11_whyLet_2 : decode cX11_whyLet 2 = .ok (.invokevirtual 363, 3) := by decide +kernel
theorem dX11_whyLet_5 : decode cX11_whyLet 5 = .ok (.ifCond .eq 13, 3) := by decide +kernel
theorem dX11_whyLet_8 : decode cX11_whyLet 8 = .ok (.aload_n 0, 1) := by decide +kernel
theorem dX11_whyLet_9 : decode cX11_whyLet 9 = .ok (.lload_n 3, 1) := by decide +kernel
theorem dX11_whyLet_10 : decode cX11_whyLet 10 = .ok (.lload 5, 2) := by decide +kernel
theorem dX11_whyLet_12 : decode cX11_whyLet 12 = .ok (.invokevirtual 373, 3) := by decide +kernel
theorem dX11_whyLet_15 : decode cX11_whyLet 15 = .ok (.ifCond .ne 5, 3) := by decide +kernel
theorem dX11_whyLet_18 : decode cX11_whyLet 18 = .ok (.iconst 1, 1) := by decide +kernel
theorem dX11_whyLet_19 : decode cX11_whyLet 19 = .ok (.ireturn, 1) := by decide +kernel
theorem dX11_whyLet_20 : decode cX11_whyLet 20 = .ok (.aload_n 0, 1) := by decide +kernel
theorem dX11_whyLet_21 : decode cX11_whyLet 21 = .ok (.lload_n 1, 1) := by decide +kernel
theorem dX11_whyLet_22 : decode cX11_whyLet 22 = .ok (.l2i, 1) := by decide +kernel
theorem dX11_whyLet_23 : decode cX11_whyLet 23 = .ok (.iconst 0, 1) := by decide +kernel
theorem dX11_whyLet_24 : decode cX11_whyLet 24 = .ok (.invokevirtual 283, 3) := by decide +kernel
theorem dX11_whyLet_27 : decode cX11_whyLet 27 = .ok (.ifCond .ne 7, 3) := by decide +kernel
theorem dX11_whyLet_30 : decode cX11_whyLet 30 = .ok (.iconst 2, 1) := by decide +kernel
theorem dX11_whyLet_31 : decode cX11_whyLet 31 = .ok (.goto 23, 3) := by decide +kernel
theorem dX11_whyLet_34 : decode cX11_whyLet 34 = .ok (.aload_n 0, 1) := by decide +kernel
theorem dX11_whyLet_35 : decode cX11_whyLet 35 = .ok (.getfield 9, 3) := by decide +kernel
theorem dX11_whyLet_38 : decode cX11_whyLet 38 = .ok (.lload_n 3, 1) := by decide +kernel
theorem dX11_whyLet_39 : decode cX11_whyLet 39 = .ok (.l2i, 1) := by decide +kernel
theorem dX11_whyLet_40 : decode cX11_whyLet 40 = .ok (.lload 5, 2) := by decide +kernel
theorem dX11_whyLet_42 : decode cX11_whyLet 42 = .ok (.l2i, 1) := by decide +kernel
theorem dX11_whyLet_43 : decode cX11_whyLet 43 = .ok (.invokestatic 216, 3) := by decide +kernel
theorem dX11_whyLet_46 : decode cX11_whyLet 46 = .ok (.ifCond .eq 7, 3) := by decide +kernel
theorem dX11_whyLet_49 : decode cX11_whyLet 49 = .ok (.iconst 0, 1) := by decide +kernel
theorem dX11_whyLet_50 : decode cX11_whyLet 50 = .ok (.goto 4, 3) := by decide +kernel
theorem dX11_whyLet_53 : decode cX11_whyLet 53 = .ok (.iconst 3, 1) := by decide +kernel
theorem dX11_whyLet_54 : decode cX11_whyLet 54 = .ok (.ireturn, 1) := by decide +kernel
theorem dX11_whyTake_0 : decode cX11_whyTake 0 = .ok (.aload_n 0, 1) := by decide +kernel
theorem dX11_whyTake_1 : decode cX11_whyTake 1 = .ok (.lload_n 1, 1) := by decide +kernel
theorem dX11_whyTake_2 : decode cX11_whyTake 2 = .ok (.invokevirtual 363, 3) := by decide +kernel
theorem dX11_whyTake_5 : decode cX11_whyTake 5 = .ok (.ifCond .ne 5, 3) := by decide +kernel
theorem dX11_whyTake_8 : decode cX11_whyTake 8 = .ok (.iconst 1, 1) := by decide +kernel
theorem dX11_whyTake_9 : decode cX11_whyTake 9 = .ok (.ireturn, 1) := by decide +kernel
theorem dX11_whyTake_10 : decode cX11_whyTake 10 = .ok (.lload_n 1, 1) := by decide +kernel
theorem dX11_whyTake_11 : decode cX11_whyTake 11 = .ok (.l2i, 1) := by decide +kernel
theorem dX11_whyTake_12 : decode cX11_whyTake 12 = .ok (.istore_n 3, 1) := by decide +kernel
theorem dX11_whyTake_13 : decode cX11_whyTake 13 = .ok (.aload_n 0, 1) := by decide +kernel
theorem dX11_whyTake_14 : decode cX11_whyTake 14 = .ok (.iload_n 3, 1) := by decide +kernel
theorem dX11_whyTake_15 : decode cX11_whyTake 15 = .ok (.iconst 0, 1) := by decide +kernel
theorem dX11_whyTake_16 : decode cX11_whyTake 16 = .ok (.invokevirtual 283, 3) := by decide +kernel
theorem dX11_whyTake_19 : decode cX11_whyTake 19 = .ok (.ifCond .eq 5, 3) := by decide +kernel
theorem dX11_whyTake_22 : decode cX11_whyTake 22 = .ok (.iconst 2, 1) := by decide +kernel
theorem dX11_whyTake_23 : decode cX11_whyTake 23 = .ok (.ireturn, 1) := by decide +kernel
theorem dX11_whyTake_24 : decode cX11_whyTake 24 = .ok (.aload_n 0, 1) := by decide +kernel
theorem dX11_whyTake_25 : decode cX11_whyTake 25 = .ok (.iload_n 3, 1) := by decide +kernel
theorem dX11_whyTake_26 : decode cX11_whyTake 26 = .ok (.iconst 2, 1) := by decide +kernel
theorem dX11_whyTake_27 : decode cX11_whyTake 27 = .ok (.invokevirtual 283, 3) := by decide +kernel
theorem dX11_whyTake_30 : decode cX11_whyTake 30 = .ok (.ifCond .eq 34, 3) := by decide +kernel
theorem dX11_whyTake_33 : decode cX11_whyTake 33 = .ok (.aload_n 0, 1) := by decide +kernel
theorem dX11_whyTake_34 : decode cX11_whyTake 34 = .ok (.getfield 9, 3) := by decide +kernel
theorem dX11_whyTake_37 : decode cX11_whyTake 37 = .ok (.bipush 24, 2) := by decide +kernel
theorem dX11_whyTake_39 : decode cX11_whyTake 39 = .ok (.iload_n 3, 1) := by decide +kernel
theorem dX11_whyTake_40 : decode cX11_whyTake 40 = .ok (.iadd, 1) := by decide +kernel
theorem dX11_whyTake_41 : decode cX11_whyTake 41 = .ok (.iaload, 1) := by decide +kernel
theorem dX11_whyTake_42 : decode cX11_whyTake 42 = .ok (.aload_n 0, 1) := by decide +kernel
theorem dX11_whyTake_43 : decode cX11_whyTake 43 = .ok (.aload_n 0, 1) := by decide +kernel
theorem dX11_whyTake_44 : decode cX11_whyTake 44 = .ok (.getfield 9, 3) := by decide +kernel
theorem dX11_whyTake_47 : decode cX11_whyTake 47 = .ok (.bipush 16, 2) := by decide +kernel
theorem dX11_whyTake_49 : decode cX11_whyTake 49 = .ok (.iload_n 3, 1) := by decide +kernel
theorem dX11_whyTake_50 : decode cX11_whyTake 50 = .ok (.iadd, 1) := by decide +kernel
theorem dX11_whyTake_51 : decode cX11_whyTake 51 = .ok (.iaload, 1) := by decide +kernel
theorem dX11_whyTake_52 : decode cX11_whyTake 52 = .ok (.invokevirtual 311, 3) := by decide +kernel
theorem dX11_whyTake_55 : decode cX11_whyTake 55 = .ok (.iconst 1, 1) := by decide +kernel
theorem dX11_whyTake_56 : decode cX11_whyTake 56 = .ok (.isub, 1) := by decide +kernel
theorem dX11_whyTake_57 : decode cX11_whyTake 57 = .ok (.if_icmp .ge 7, 3) := by decide +kernel
theorem dX11_whyTake_60 : decode cX11_whyTake 60 = .ok (.iconst 3, 1) := by decide +kernel
theorem dX11_whyTake_61 : decode cX11_whyTake 61 = .ok (.goto 4, 3) := by decide +kernel
theorem dX11_whyTake_64 : decode cX11_whyTake 64 = .ok (.iconst 0, 1) := by decide +kernel
theorem dX11_whyTake_65 : decode cX11_whyTake 65 = .ok (.ireturn, 1) := by decide +kernel
theorem dX11_takes_0 : decode cX11_takes 0 = .ok (.aload_n 0, 1) := by decide +kernel
theorem dX11_takes_1 : decode cX11_takes 1 = .ok (.getfield 9, 3) := by decide +kernel
theorem dX11_takes_4 : decode cX11_takes 4 = .ok (.bipush 8, 2) := by decide +kernel
theorem dX11_takes_6 : decode cX11_takes 6 = .ok (.iload_n 1, 1) := by decide +kernel
theorem dX11_takes_7 : decode cX11_takes 7 = .ok (.iadd, 1) := by decide +kernel
theorem dX11_takes_8 : decode cX11_takes 8 = .ok (.iconst 0, 1) := by decide +kernel
theorem dX11_takes_9 : decode cX11_takes 9 = .ok (.iastore, 1) := by decide +kernel
theorem dX11_takes_10 : decode cX11_takes 10 = .ok (.aload_n 0, 1) := by decide +kernel
theorem dX11_takes_11 : decode cX11_takes 11 = .ok (.getfield 9, 3) := by decide +kernel
theorem dX11_takes_14 : decode cX11_takes 14 = .ok (.bipush 16, 2) := by decide +kernel
theorem dX11_takes_16 : decode cX11_takes 16 = .ok (.iload_n 1, 1) := by decide +kernel
theorem dX11_takes_17 : decode cX11_takes 17 = .ok (.iadd, 1) := by decide +kernel
theorem dX11_takes_18 : decode cX11_takes 18 = .ok (.iconst (-1), 1) := by decide +kernel
theorem dX11_takes_19 : decode cX11_takes 19 = .ok (.iastore, 1) := by decide +kernel
theorem dX11_takes_20 : decode cX11_takes 20 = .ok (.aload_n 0, 1) := by decide +kernel
theorem dX11_takes_21 : decode cX11_takes 21 = .ok (.getfield 9, 3) := by decide +kernel
theorem dX11_takes_24 : decode cX11_takes 24 = .ok (.bipush 24, 2) := by decide +kernel
theorem dX11_takes_26 : decode cX11_takes 26 = .ok (.iload_n 1, 1) := by decide +kernel
theorem dX11_takes_27 : decode cX11_takes 27 = .ok (.iadd, 1) := by decide +kernel
theorem dX11_takes_28 : decode cX11_takes 28 = .ok (.iconst (-1), 1) := by decide +kernel
theorem dX11_takes_29 : decode cX11_takes 29 = .ok (.iastore, 1) := by decide +kernel
theorem dX11_takes_30 : decode cX11_takes 30 = .ok (.aload_n 0, 1) := by decide +kernel
theorem dX11_takes_31 : decode cX11_takes 31 = .ok (.getfield 9, 3) := by decide +kernel
theorem dX11_takes_34 : decode cX11_takes 34 = .ok (.bipush 32, 2) := by decide +kernel
theorem dX11_takes_36 : decode cX11_takes 36 = .ok (.iload_n 1, 1) := by decide +kernel
theorem dX11_takes_37 : decode cX11_takes 37 = .ok (.iadd, 1) := by decide +kernel
theorem dX11_takes_38 : decode cX11_takes 38 = .ok (.aload_n 0, 1) := by decide +kernel
theorem dX11_takes_39 : decode cX11_takes 39 = .ok (.getfield 9, 3) := by decide +kernel
theorem dX11_takes_42 : decode cX11_takes 42 = .ok (.bipush 40, 2) := by decide +kernel
theorem dX11_takes_44 : decode cX11_takes 44 = .ok (.iaload, 1) := by decide +kernel
theorem dX11_takes_45 : decode cX11_takes 45 = .ok (.iastore, 1) := by decide +kernel
theorem dX11_takes_46 : decode cX11_takes 46 = .ok (.return_, 1) := by decide +kernel
theorem dX11_letGo_0 : decode cX11_letGo 0 = .ok (.aload_n 0, 1) := by decide +kernel
theorem dX11_letGo_1 : decode cX11_letGo 1 = .ok (.iconst 0, 1) := by decide +kernel
theorem dX11_letGo_2 : decode cX11_letGo 2 = .ok (.putfield 70, 3) := by decide +kernel
theorem dX11_letGo_5 : decode cX11_letGo 5 = .ok (.aload_n 0, 1) := by decide +kernel
theorem dX11_letGo_6 : decode cX11_letGo 6 = .ok (.iload_n 1, 1) := by decide +kernel
theorem dX11_letGo_7 : decode cX11_letGo 7 = .ok (.i2l, 1) := by decide +kernel
theorem dX11_letGo_8 : decode cX11_letGo 8 = .ok (.iload_n 2, 1) := by decide +kernel
theorem dX11_letGo_9 : decode cX11_letGo 9 = .ok (.i2l, 1) := by decide +kernel
theorem dX11_letGo_10 : decode cX11_letGo 10 = .ok (.iload_n 3, 1) := by decide +kernel
theorem dX11_letGo_11 : decode cX11_letGo 11 = .ok (.i2l, 1) := by decide +kernel
theorem dX11_letGo_12 : decode cX11_letGo 12 = .ok (.invokevirtual 379, 3) := by decide +kernel
theorem dX11_letGo_15 : decode cX11_letGo 15 = .ok (.istore 4, 2) := by decide +kernel
theorem dX11_letGo_17 : decode cX11_letGo 17 = .ok (.iload 4, 2) := by decide +kernel
theorem dX11_letGo_19 : decode cX11_letGo 19 = .ok (.ifCond .eq 7, 3) := by decide +kernel
theorem dX11_letGo_22 : decode cX11_letGo 22 = .ok (.iload 4, 2) := by decide +kernel
theorem dX11_letGo_24 : decode cX11_letGo 24 = .ok (.ineg, 1) := by decide +kernel
theorem dX11_letGo_25 : decode cX11_letGo 25 = .ok (.ireturn, 1) := by decide +kernel
theorem dX11_letGo_26 : decode cX11_letGo 26 = .ok (.aload_n 0, 1) := by decide +kernel
theorem dX11_letGo_27 : decode cX11_letGo 27 = .ok (.invokevirtual 383, 3) := by decide +kernel
theorem dX11_letGo_30 : decode cX11_letGo 30 = .ok (.aload_n 0, 1) := by decide +kernel
theorem dX11_letGo_31 : decode cX11_letGo 31 = .ok (.iload_n 1, 1) := by decide +kernel
theorem dX11_letGo_32 : decode cX11_letGo 32 = .ok (.iload_n 2, 1) := by decide +kernel
theorem dX11_letGo_33 : decode cX11_letGo 33 = .ok (.iload_n 3, 1) := by decide +kernel
theorem dX11_letGo_34 : decode cX11_letGo 34 = .ok (.invokevirtual 386, 3) := by decide +kernel
theorem dX11_letGo_37 : decode cX11_letGo 37 = .ok (.ireturn, 1) := by decide +kernel
theorem dX11_take_0 : decode cX11_take 0 = .ok (.aload_n 0, 1) := by decide +kernel
theorem dX11_take_1 : decode cX11_take 1 = .ok (.iconst 0, 1) := by decide +kernel
theorem dX11_take_2 : decode cX11_take 2 = .ok (.putfield 70, 3) := by decide +kernel
theorem dX11_take_5 : decode cX11_take 5 = .ok (.aload_n 0, 1) := by decide +kernel
theorem dX11_take_6 : decode cX11_take 6 = .ok (.iload_n 1, 1) := by decide +kernel
theorem dX11_take_7 : decode cX11_take 7 = .ok (.i2l, 1) := by decide +kernel
theorem dX11_take_8 : decode cX11_take 8 = .ok (.invokevirtual 390, 3) := by decide +kernel
theorem dX11_take_11 : decode cX11_take 11 = .ok (.istore_n 2, 1) := by decide +kernel
theorem dX11_take_12 : decode cX11_take 12 = .ok (.iload_n 2, 1) := by decide +kernel
theorem dX11_take_13 : decode cX11_take 13 = .ok (.ifCond .eq 6, 3) := by decide +kernel
theorem dX11_take_16 : decode cX11_take 16 = .ok (.iload_n 2, 1) := by decide +kernel
theorem dX11_take_17 : decode cX11_take 17 = .ok (.ineg, 1) := by decide +kernel
theorem dX11_take_18 : decode cX11_take 18 = .ok (.ireturn, 1) := by decide +kernel
theorem dX11_take_19 : decode cX11_take 19 = .ok (.aload_n 0, 1) := by decide +kernel
theorem dX11_take_20 : decode cX11_take 20 = .ok (.invokevirtual 383, 3) := by decide +kernel
theorem dX11_take_23 : decode cX11_take 23 = .ok (.aload_n 0, 1) := by decide +kernel
theorem dX11_take_24 : decode cX11_take 24 = .ok (.iload_n 1, 1) := by decide +kernel
theorem dX11_take_25 : decode cX11_take 25 = .ok (.invokevirtual 393, 3) := by decide +kernel
theorem dX11_take_28 : decode cX11_take 28 = .ok (.aload_n 0, 1) := by decide +kernel
theorem dX11_take_29 : decode cX11_take 29 = .ok (.getfield 9, 3) := by decide +kernel
theorem dX11_take_32 : decode cX11_take 32 = .ok (.bipush 45, 2) := by decide +kernel
theorem dX11_take_34 : decode cX11_take 34 = .ok (.iload_n 1, 1) := by decide +kernel
theorem dX11_take_35 : decode cX11_take 35 = .ok (.iadd, 1) := by decide +kernel
theorem dX11_take_36 : decode cX11_take 36 = .ok (.iaload, 1) := by decide +kernel
theorem dX11_take_37 : decode cX11_take 37 = .ok (.ireturn, 1) := by decide +kernel
theorem dX11_quakes_0 : decode cX11_quakes 0 = .ok (.aload_n 0, 1) := by decide +kernel
theorem dX11_quakes_1 : decode cX11_quakes 1 = .ok (.iconst 0, 1) := by decide +kernel
theorem dX11_quakes_2 : decode cX11_quakes 2 = .ok (.putfield 339, 3) := by decide +kernel
theorem dX11_quakes_5 : decode cX11_quakes 5 = .ok (.aload_n 0, 1) := by decide +kernel
theorem dX11_quakes_6 : decode cX11_quakes 6 = .ok (.iconst 0, 1) := by decide +kernel
theorem dX11_quakes_7 : decode cX11_quakes 7 = .ok (.putfield 342, 3) := by decide +kernel
theorem dX11_quakes_10 : decode cX11_quakes 10 = .ok (.aload_n 0, 1) := by decide +kernel
theorem dX11_quakes_11 : decode cX11_quakes 11 = .ok (.iconst 1, 1) := by decide +kernel
theorem dX11_quakes_12 : decode cX11_quakes 12 = .ok (.invokevirtual 351, 3) := by decide +kernel
theorem dX11_quakes_15 : decode cX11_quakes 15 = .ok (.aload_n 0, 1) := by decide +kernel
theorem dX11_quakes_16 : decode cX11_quakes 16 = .ok (.getfield 339, 3) := by decide +kernel
theorem dX11_quakes_19 : decode cX11_quakes 19 = .ok (.invokestatic 330, 3) := by decide +kernel
theorem dX11_quakes_22 : decode cX11_quakes 22 = .ok (.ireturn, 1) := by decide +kernel
theorem dX11_quake_0 : decode cX11_quake 0 = .ok (.aload_n 0, 1) := by decide +kernel
theorem dX11_quake_1 : decode cX11_quake 1 = .ok (.iconst 0, 1) := by decide +kernel
theorem dX11_quake_2 : decode cX11_quake 2 = .ok (.putfield 70, 3) := by decide +kernel
theorem dX11_quake_5 : decode cX11_quake 5 = .ok (.aload_n 0, 1) := by decide +kernel
theorem dX11_quake_6 : decode cX11_quake 6 = .ok (.invokevirtual 383, 3) := by decide +kernel
theorem dX11_quake_9 : decode cX11_quake 9 = .ok (.aload_n 0, 1) := by decide +kernel
theorem dX11_quake_10 : decode cX11_quake 10 = .ok (.invokevirtual 396, 3) := by decide +kernel
theorem dX11_quake_13 : decode cX11_quake 13 = .ok (.ireturn, 1) := by decide +kernel
theorem dX11_hours_0 : decode cX11_hours 0 = .ok (.aload_n 0, 1) := by decide +kernel
theorem dX11_hours_1 : decode cX11_hours 1 = .ok (.iconst 0, 1) := by decide +kernel
theorem dX11_hours_2 : decode cX11_hours 2 = .ok (.putfield 70, 3) := by decide +kernel
theorem dX11_hours_5 : decode cX11_hours 5 = .ok (.iload_n 1, 1) := by decide +kernel
theorem dX11_hours_6 : decode cX11_hours 6 = .ok (.i2l, 1) := by decide +kernel
theorem dX11_hours_7 : decode cX11_hours 7 = .ok (.lconst 1, 1) := by decide +kernel
theorem dX11_hours_8 : decode cX11_hours 8 = .ok (.ldc2_w 399, 3) := by decide +kernel
theorem dX11_hours_11 : decode cX11_hours 11 = .ok (.invokestatic 131, 3) := by decide +kernel
theorem dX11_hours_14 : decode cX11_hours 14 = .ok (.ifCond .ne 9, 3) := by decide +kernel
theorem dX11_hours_17 : decode cX11_hours 17 = .ok (.aload_n 0, 1) := by decide +kernel
theorem dX11_hours_18 : decode cX11_hours 18 = .ok (.iconst 1, 1) := by decide +kernel
theorem dX11_hours_19 : decode cX11_hours 19 = .ok (.invokevirtual 269, 3) := by decide +kernel
theorem dX11_hours_22 : decode cX11_hours 22 = .ok (.ireturn, 1) := by decide +kernel
theorem dX11_hours_23 : decode cX11_hours 23 = .ok (.aload_n 0, 1) := by decide +kernel
theorem dX11_hours_24 : decode cX11_hours 24 = .ok (.invokevirtual 383, 3) := by decide +kernel
theorem dX11_hours_27 : decode cX11_hours 27 = .ok (.iconst 0, 1) := by decide +kernel
theorem dX11_hours_28 : decode cX11_hours 28 = .ok (.istore_n 2, 1) := by decide +kernel
theorem dX11_hours_29 : decode cX11_hours 29 = .ok (.iconst 0, 1) := by decide +kernel
theorem dX11_hours_30 : decode cX11_hours 30 = .ok (.istore_n 3, 1) := by decide +kernel
theorem dX11_hours_31 : decode cX11_hours 31 = .ok (.iload_n 3, 1) := by decide +kernel
theorem dX11_hours_32 : decode cX11_hours 32 = .ok (.iload_n 1, 1) := by decide +kernel
theorem dX11_hours_33 : decode cX11_hours 33 = .ok (.if_icmp .ge 23, 3) := by decide +kernel
theorem dX11_hours_36 : decode cX11_hours 36 = .ok (.aload_n 0, 1) := by decide +kernel
theorem dX11_hours_37 : decode cX11_hours 37 = .ok (.invokevirtual 401, 3) := by decide +kernel
theorem dX11_hours_40 : decode cX11_hours 40 = .ok (.iload_n 2, 1) := by decide +kernel
theorem dX11_hours_41 : decode cX11_hours 41 = .ok (.aload_n 0, 1) := by decide +kernel
theorem dX11_hours_42 : decode cX11_hours 42 = .ok (.getfield 339, 3) := by decide +kernel
theorem dX11_hours_45 : decode cX11_hours 45 = .ok (.invokestatic 330, 3) := by decide +kernel
theorem dX11_hours_48 : decode cX11_hours 48 = .ok (.iadd, 1) := by decide +kernel
theorem dX11_hours_49 : decode cX11_hours 49 = .ok (.istore_n 2, 1) := by decide +kernel
theorem dX11_hours_50 : decode cX11_hours 50 = .ok (.iinc 3 1, 3) := by decide +kernel
theorem dX11_hours_53 : decode cX11_hours 53 = .ok (.goto (-22), 3) := by decide +kernel
theorem dX11_hours_56 : decode cX11_hours 56 = .ok (.iload_n 2, 1) := by decide +kernel
theorem dX11_hours_57 : decode cX11_hours 57 = .ok (.ireturn, 1) := by decide +kernel
theorem dX11_undo_0 : decode cX11_undo 0 = .ok (.aload_n 0, 1) := by decide +kernel
theorem dX11_undo_1 : decode cX11_undo 1 = .ok (.iconst 0, 1) := by decide +kernel
theorem dX11_undo_2 : decode cX11_undo 2 = .ok (.putfield 70, 3) := by decide +kernel
theorem dX11_undo_5 : decode cX11_undo 5 = .ok (.iload_n 1, 1) := by decide +kernel
theorem dX11_undo_6 : decode cX11_undo 6 = .ok (.i2l, 1) := by decide +kernel
theorem dX11_undo_7 : decode cX11_undo 7 = .ok (.lconst 1, 1) := by decide +kernel
theorem dX11_undo_8 : decode cX11_undo 8 = .ok (.ldc2_w 403, 3) := by decide +kernel
theorem dX11_undo_11 : decode cX11_undo 11 = .ok (.invokestatic 131, 3) := by decide +kernel
theorem dX11_undo_14 : decode cX11_undo 14 = .ok (.ifCond .eq 14, 3) := by decide +kernel
theorem dX11_undo_17 : decode cX11_undo 17 = .ok (.iload_n 1, 1) := by decide +kernel
theorem dX11_undo_18 : decode cX11_undo 18 = .ok (.aload_n 0, 1) := by decide +kernel
theorem dX11_undo_19 : decode cX11_undo 19 = .ok (.getfield 9, 3) := by decide +kernel
theorem dX11_undo_22 : decode cX11_undo 22 = .ok (.bipush 7, 2) := by decide +kernel
theorem dX11_undo_24 : decode cX11_undo 24 = .ok (.iaload, 1) := by decide +kernel
theorem dX11_undo_25 : decode cX11_undo 25 = .ok (.if_icmp .le 9, 3) := by decide +kernel
theorem dX11_undo_28 : decode cX11_undo 28 = .ok (.aload_n 0, 1) := by decide +kernel
theorem dX11_undo_29 : decode cX11_undo 29 = .ok (.iconst 1, 1) := by decide +kernel
theorem dX11_undo_30 : decode cX11_undo 30 = .ok (.invokevirtual 269, 3) := by decide +kernel
theorem dX11_undo_33 : decode cX11_undo 33 = .ok (.ireturn, 1) := by decide +kernel
theorem dX11_undo_34 : decode cX11_undo 34 = .ok (.aload_n 0, 1) := by decide +kernel
theorem dX11_undo_35 : decode cX11_undo 35 = .ok (.getfield 9, 3) := by decide +kernel
theorem dX11_undo_38 : decode cX11_undo 38 = .ok (.bipush 7, 2) := by decide +kernel
theorem dX11_undo_40 : decode cX11_undo 40 = .ok (.dup2, 1) := by decide +kernel
theorem dX11_undo_41 : decode cX11_undo 41 = .ok (.iaload, 1) := by decide +kernel
theorem dX11_undo_42 : decode cX11_undo 42 = .ok (.iload_n 1, 1) := by decide +kernel
theorem dX11_undo_43 : decode cX11_undo 43 = .ok (.isub, 1) := by decide +kernel
theorem dX11_undo_44 : decode cX11_undo 44 = .ok (.iastore, 1) := by decide +kernel
theorem dX11_undo_45 : decode cX11_undo 45 = .ok (.iconst 0, 1) := by decide +kernel
theorem dX11_undo_46 : decode cX11_undo 46 = .ok (.istore_n 2, 1) := by decide +kernel
theorem dX11_undo_47 : decode cX11_undo 47 = .ok (.iload_n 2, 1) := by decide +kernel
theorem dX11_undo_48 : decode cX11_undo 48 = .ok (.bipush 37, 2) := by decide +kernel
theorem dX11_undo_50 : decode cX11_undo 50 = .ok (.if_icmp .ge 38, 3) := by decide +kernel
theorem dX11_undo_53 : decode cX11_undo 53 = .ok (.aload_n 0, 1) := by decide +kernel
theorem dX11_undo_54 : decode cX11_undo 54 = .ok (.getfield 9, 3) := by decide +kernel
theorem dX11_undo_57 : decode cX11_undo 57 = .ok (.bipush 8, 2) := by decide +kernel
theorem dX11_undo_59 : decode cX11_undo 59 = .ok (.iload_n 2, 1) := by decide +kernel
theorem dX11_undo_60 : decode cX11_undo 60 = .ok (.iadd, 1) := by decide +kernel
theorem dX11_undo_61 : decode cX11_undo 61 = .ok (.aload_n 0, 1) := by decide +kernel
theorem dX11_undo_62 : decode cX11_undo 62 = .ok (.getfield 9, 3) := by decide +kernel
theorem dX11_undo_65 : decode cX11_undo 65 = .ok (.bipush 89, 2) := by decide +kernel
theorem dX11_undo_67 : decode cX11_undo 67 = .ok (.bipush 37, 2) := by decide +kernel
theorem dX11_undo_69 : decode cX11_undo 69 = .ok (.aload_n 0, 1) := by decide +kernel
theorem dX11_undo_70 : decode cX11_undo 70 = .ok (.getfield 9, 3) := by decide +kernel
theorem dX11_undo_73 : decode cX11_undo 73 = .ok (.bipush 7, 2) := by decide +kernel
theorem dX11_undo_75 : decode cX11_undo 75 = .ok (.iaload, 1) := by decide +kernel
theorem dX11_undo_76 : decode cX11_undo 76 = .ok (.imul, 1) := by decide +kernel
theorem dX11_undo_77 : decode cX11_undo 77 = .ok (.iadd, 1) := by decide +kernel
theorem dX11_undo_78 : decode cX11_undo 78 = .ok (.iload_n 2, 1) := by decide +kernel
theorem dX11_undo_79 : decode cX11_undo 79 = .ok (.iadd, 1) := by decide +kernel
theorem dX11_undo_80 : decode cX11_undo 80 = .ok (.iaload, 1) := by decide +kernel
theorem dX11_undo_81 : decode cX11_undo 81 = .ok (.iastore, 1) := by decide +kernel
theorem dX11_undo_82 : decode cX11_undo 82 = .ok (.iinc 2 1, 3) := by decide +kernel
theorem dX11_undo_85 : decode cX11_undo 85 = .ok (.goto (-38), 3) := by decide +kernel
theorem dX11_undo_88 : decode cX11_undo 88 = .ok (.aload_n 0, 1) := by decide +kernel
theorem dX11_undo_89 : decode cX11_undo 89 = .ok (.getfield 9, 3) := by decide +kernel
theorem dX11_undo_92 : decode cX11_undo 92 = .ok (.bipush 7, 2) := by decide +kernel
theorem dX11_undo_94 : decode cX11_undo 94 = .ok (.iaload, 1) := by decide +kernel
theorem dX11_undo_95 : decode cX11_undo 95 = .ok (.ireturn, 1) := by decide +kernel
theorem dX11_trayFault_0 : decode cX11_trayFault 0 = .ok (.iload_n 1, 1) := by decide +kernel
theorem dX11_trayFault_1 : decode cX11_trayFault 1 = .ok (.invokestatic 405, 3) := by decide +kernel
theorem dX11_trayFault_4 : decode cX11_trayFault 4 = .ok (.ifCond .ne 7, 3) := by decide +kernel
theorem dX11_trayFault_7 : decode cX11_trayFault 7 = .ok (.iconst 1, 1) := by decide +kernel
theorem dX11_trayFault_8 : decode cX11_trayFault 8 = .ok (.goto 18, 3) := by decide +kernel
theorem dX11_trayFault_11 : decode cX11_trayFault 11 = .ok (.aload_n 0, 1) := by decide +kernel
theorem dX11_trayFault_12 : decode cX11_trayFault 12 = .ok (.getfield 61, 3) := by decide +kernel
theorem dX11_trayFault_15 : decode cX11_trayFault 15 = .ok (.iload_n 1, 1) := by decide +kernel
theorem dX11_trayFault_16 : decode cX11_trayFault 16 = .ok (.iaload, 1) := by decide +kernel
theorem dX11_trayFault_17 : decode cX11_trayFault 17 = .ok (.iconst (-1), 1) := by decide +kernel
theorem dX11_trayFault_18 : decode cX11_trayFault 18 = .ok (.if_icmp .ne 7, 3) := by decide +kernel
theorem dX11_trayFault_21 : decode cX11_trayFault 21 = .ok (.iconst 2, 1) := by decide +kernel
theorem dX11_trayFault_22 : decode cX11_trayFault 22 = .ok (.goto 4, 3) := by decide +kernel
theorem dX11_trayFault_25 : decode cX11_trayFault 25 = .ok (.iconst 0, 1) := by decide +kernel
theorem dX11_trayFault_26 : decode cX11_trayFault 26 = .ok (.ireturn, 1) := by decide +kernel
theorem dX11_whyTold_0 : decode cX11_whyTold 0 = .ok (.lload_n 1, 1) := by decide +kernel
theorem dX11_whyTold_1 : decode cX11_whyTold 1 = .ok (.ldc2_w 408, 3) := by decide +kernel
theorem dX11_whyTold_4 : decode cX11_whyTold 4 = .ok (.lcmp, 1) := by decide +kernel
theorem dX11_whyTold_5 : decode cX11_whyTold 5 = .ok (.ifCond .eq 11, 3) := by decide +kernel
theorem dX11_whyTold_8 : decode cX11_whyTold 8 = .ok (.lload_n 1, 1) := by decide +kernel
theorem dX11_whyTold_9 : decode cX11_whyTold 9 = .ok (.ldc2_w 410, 3) := by decide +kernel
theorem dX11_whyTold_12 : decode cX11_whyTold 12 = .ok (.lcmp, 1) := by decide +kernel
theorem dX11_whyTold_13 : decode cX11_whyTold 13 = .ok (.ifCond .ne 5, 3) := by decide +kernel
theorem dX11_whyTold_16 : decode cX11_whyTold 16 = .ok (.iconst 0, 1) := by decide +kernel
theorem dX11_whyTold_17 : decode cX11_whyTold 17 = .ok (.ireturn, 1) := by decide +kernel
theorem dX11_whyTold_18 : decode cX11_whyTold 18 = .ok (.lload_n 1, 1) := by decide +kernel
theorem dX11_whyTold_19 : decode cX11_whyTold 19 = .ok (.lconst 0, 1) := by decide +kernel
theorem dX11_whyTold_20 : decode cX11_whyTold 20 = .ok (.ldc2_w 412, 3) := by decide +kernel
theorem dX11_whyTold_23 : decode cX11_whyTold 23 = .ok (.invokestatic 131, 3) := by decide +kernel
theorem dX11_whyTold_26 : decode cX11_whyTold 26 = .ok (.ifCond .eq 27, 3) := by decide +kernel
theorem dX11_whyTold_29 : decode cX11_whyTold 29 = .ok (.aload_n 0, 1) := by decide +kernel
theorem dX11_whyTold_30 : decode cX11_whyTold 30 = .ok (.lload_n 1, 1) := by decide +kernel
theorem dX11_whyTold_31 : decode cX11_whyTold 31 = .ok (.ldc2_w 414, 3) := by decide +kernel
theorem dX11_whyTold_34 : decode cX11_whyTold 34 = .ok (.ldiv, 1) := by decide +kernel
theorem dX11_whyTold_35 : decode cX11_whyTold 35 = .ok (.lload_n 1, 1) := by decide +kernel
theorem dX11_whyTold_36 : decode cX11_whyTold 36 = .ok (.ldc2_w 403, 3) := by decide +kernel
theorem dX11_whyTold_39 : decode cX11_whyTold 39 = .ok (.ldiv, 1) := by decide +kernel
theorem dX11_whyTold_40 : decode cX11_whyTold 40 = .ok (.ldc2_w 403, 3) := by decide +kernel
theorem dX11_whyTold_43 : decode cX11_whyTold 43 = .ok (.lrem, 1) := by decide +kernel
theorem dX11_whyTold_44 : decode cX11_whyTold 44 = .ok (.lload_n 1, 1) := by decide +kernel
theorem dX11_whyTold_45 : decode cX11_whyTold 45 = .ok (.ldc2_w 403, 3) := by decide +kernel
theorem dX11_whyTold_48 : decode cX11_whyTold 48 = .ok (.lrem, 1) := by decide +kernel
theorem dX11_whyTold_49 : decode cX11_whyTold 49 = .ok (.invokevirtual 379, 3) := by decide +kernel
theorem dX11_whyTold_52 : decode cX11_whyTold 52 = .ok (.ireturn, 1) := by decide +kernel
theorem dX11_whyTold_53 : decode cX11_whyTold 53 = .ok (.lload_n 1, 1) := by decide +kernel
theorem dX11_whyTold_54 : decode cX11_whyTold 54 = .ok (.ldc2_w 416, 3) := by decide +kernel
theorem dX11_whyTold_57 : decode cX11_whyTold 57 = .ok (.ldc2_w 418, 3) := by decide +kernel
theorem dX11_whyTold_60 : decode cX11_whyTold 60 = .ok (.invokestatic 131, 3) := by decide +kernel
theorem dX11_whyTold_63 : decode cX11_whyTold 63 = .ok (.ifCond .eq 15, 3) := by decide +kernel
theorem dX11_whyTold_66 : decode cX11_whyTold 66 = .ok (.aload_n 0, 1) := by decide +kernel
theorem dX11_whyTold_67 : decode cX11_whyTold 67 = .ok (.lload_n 1, 1) := by decide +kernel
theorem dX11_whyTold_68 : decode cX11_whyTold 68 = .ok (.ldc2_w 416, 3) := by decide +kernel
theorem dX11_whyTold_71 : decode cX11_whyTold 71 = .ok (.lsub, 1) := by decide +kernel
theorem dX11_whyTold_72 : decode cX11_whyTold 72 = .ok (.invokevirtual 390, 3) := by decide +kernel
theorem dX11_whyTold_75 : decode cX11_whyTold 75 = .ok (.goto 4, 3) := by decide +kernel
theorem dX11_whyTold_78 : decode cX11_whyTold 78 = .ok (.iconst 1, 1) := by decide +kernel
theorem dX11_whyTold_79 : decode cX11_whyTold 79 = .ok (.ireturn, 1) := by decide +kernel
theorem dX11_does_0 : decode cX11_does 0 = .ok (.iload_n 1, 1) := by decide +kernel
theorem dX11_does_1 : decode cX11_does 1 = .ok (.iconst (-1), 1) := by decide +kernel
theorem dX11_does_2 : decode cX11_does 2 = .ok (.if_icmp .ne 10, 3) := by decide +kernel
theorem dX11_does_5 : decode cX11_does 5 = .ok (.aload_n 0, 1) := by decide +kernel
theorem dX11_does_6 : decode cX11_does 6 = .ok (.invokevirtual 401, 3) := by decide +kernel
theorem dX11_does_9 : decode cX11_does 9 = .ok (.goto 57, 3) := by decide +kernel
theorem dX11_does_12 : decode cX11_does 12 = .ok (.iload_n 1, 1) := by decide +kernel
theorem dX11_does_13 : decode cX11_does 13 = .ok (.sipush 1000, 3) := by decide +kernel
theorem dX11_does_16 : decode cX11_does 16 = .ok (.if_icmp .ge 26, 3) := by decide +kernel
theorem dX11_does_19 : decode cX11_does 19 = .ok (.aload_n 0, 1) := by decide +kernel
theorem dX11_does_20 : decode cX11_does 20 = .ok (.iload_n 1, 1) := by decide +kernel
theorem dX11_does_21 : decode cX11_does 21 = .ok (.bipush 100, 2) := by decide +kernel
theorem dX11_does_23 : decode cX11_does 23 = .ok (.idiv, 1) := by decide +kernel
theorem dX11_does_24 : decode cX11_does 24 = .ok (.iload_n 1, 1) := by decide +kernel
theorem dX11_does_25 : decode cX11_does 25 = .ok (.bipush 10, 2) := by decide +kernel
theorem dX11_does_27 : decode cX11_does 27 = .ok (.idiv, 1) := by decide +kernel
theorem dX11_does_28 : decode cX11_does 28 = .ok (.bipush 10, 2) := by decide +kernel
theorem dX11_does_30 : decode cX11_does 30 = .ok (.irem, 1) := by decide +kernel
theorem dX11_does_31 : decode cX11_does 31 = .ok (.iload_n 1, 1) := by decide +kernel
theorem dX11_does_32 : decode cX11_does 32 = .ok (.bipush 10, 2) := by decide +kernel
theorem dX11_does_34 : decode cX11_does 34 = .ok (.irem, 1) := by decide +kernel
theorem dX11_does_35 : decode cX11_does 35 = .ok (.invokevirtual 386, 3) := by decide +kernel
theorem dX11_does_38 : decode cX11_does 38 = .ok (.pop, 1) := by decide +kernel
theorem dX11_does_39 : decode cX11_does 39 = .ok (.goto 27, 3) := by decide +kernel
theorem dX11_does_42 : decode cX11_does 42 = .ok (.iload_n 1, 1) := by decide +kernel
theorem dX11_does_43 : decode cX11_does 43 = .ok (.sipush 2000, 3) := by decide +kernel
theorem dX11_does_46 : decode cX11_does 46 = .ok (.if_icmp .ge 15, 3) := by decide +kernel
theorem dX11_does_49 : decode cX11_does 49 = .ok (.aload_n 0, 1) := by decide +kernel
theorem dX11_does_50 : decode cX11_does 50 = .ok (.iload_n 1, 1) := by decide +kernel
theorem dX11_does_51 : decode cX11_does 51 = .ok (.sipush 1000, 3) := by decide +kernel
theorem dX11_does_54 : decode cX11_does 54 = .ok (.isub, 1) := by decide +kernel
theorem dX11_does_55 : decode cX11_does 55 = .ok (.invokevirtual 393, 3) := by decide +kernel
theorem dX11_does_58 : decode cX11_does 58 = .ok (.goto 8, 3) := by decide +kernel
theorem dX11_does_61 : decode cX11_does 61 = .ok (.aload_n 0, 1) := by decide +kernel
theorem dX11_does_62 : decode cX11_does 62 = .ok (.invokevirtual 396, 3) := by decide +kernel
theorem dX11_does_65 : decode cX11_does 65 = .ok (.pop, 1) := by decide +kernel
theorem dX11_does_66 : decode cX11_does 66 = .ok (.return_, 1) := by decide +kernel
theorem dX11_lyingAll_0 : decode cX11_lyingAll 0 = .ok (.iconst 0, 1) := by decide +kernel
theorem dX11_lyingAll_1 : decode cX11_lyingAll 1 = .ok (.istore_n 1, 1) := by decide +kernel
theorem dX11_lyingAll_2 : decode cX11_lyingAll 2 = .ok (.iconst 0, 1) := by decide +kernel
theorem dX11_lyingAll_3 : decode cX11_lyingAll 3 = .ok (.istore_n 2, 1) := by decide +kernel
theorem dX11_lyingAll_4 : decode cX11_lyingAll 4 = .ok (.iload_n 2, 1) := by decide +kernel
theorem dX11_lyingAll_5 : decode cX11_lyingAll 5 = .ok (.aload_n 0, 1) := by decide +kernel
theorem dX11_lyingAll_6 : decode cX11_lyingAll 6 = .ok (.invokevirtual 280, 3) := by decide +kernel
theorem dX11_lyingAll_9 : decode cX11_lyingAll 9 = .ok (.if_icmp .ge 26, 3) := by decide +kernel
theorem dX11_lyingAll_12 : decode cX11_lyingAll 12 = .ok (.iload_n 1, 1) := by decide +kernel
theorem dX11_lyingAll_13 : decode cX11_lyingAll 13 = .ok (.aload_n 0, 1) := by decide +kernel
theorem dX11_lyingAll_14 : decode cX11_lyingAll 14 = .ok (.iload_n 2, 1) := by decide +kernel
theorem dX11_lyingAll_15 : decode cX11_lyingAll 15 = .ok (.iconst 2, 1) := by decide +kernel
theorem dX11_lyingAll_16 : decode cX11_lyingAll 16 = .ok (.invokevirtual 283, 3) := by decide +kernel
theorem dX11_lyingAll_19 : decode cX11_lyingAll 19 = .ok (.ifCond .eq 7, 3) := by decide +kernel
theorem dX11_lyingAll_22 : decode cX11_lyingAll 22 = .ok (.iconst 1, 1) := by decide +kernel
theorem dX11_lyingAll_23 : decode cX11_lyingAll 23 = .ok (.goto 4, 3) := by decide +kernel
theorem dX11_lyingAll_26 : decode cX11_lyingAll 26 = .ok (.iconst 0, 1) := by decide +kernel
theorem dX11_lyingAll_27 : decode cX11_lyingAll 27 = .ok (.iadd, 1) := by decide +kernel
theorem dX11_lyingAll_28 : decode cX11_lyingAll 28 = .ok (.istore_n 1, 1) := by decide +kernel
theorem dX11_lyingAll_29 : decode cX11_lyingAll 29 = .ok (.iinc 2 1, 3) := by decide +kernel
theorem dX11_lyingAll_32 : decode cX11_lyingAll 32 = .ok (.goto (-28), 3) := by decide +kernel
theorem dX11_lyingAll_35 : decode cX11_lyingAll 35 = .ok (.iload_n 1, 1) := by decide +kernel
theorem dX11_lyingAll_36 : decode cX11_lyingAll 36 = .ok (.ireturn, 1) := by decide +kernel
theorem dX11_hurtAll_0 : decode cX11_hurtAll 0 = .ok (.iconst 0, 1) := by decide +kernel
theorem dX11_hurtAll_1 : decode cX11_hurtAll 1 = .ok (.istore_n 1, 1) := by decide +kernel
theorem dX11_hurtAll_2 : decode cX11_hurtAll 2 = .ok (.iconst 0, 1) := by decide +kernel
theorem dX11_hurtAll_3 : decode cX11_hurtAll 3 = .ok (.istore_n 2, 1) := by decide +kernel
theorem dX11_hurtAll_4 : decode cX11_hurtAll 4 = .ok (.iload_n 2, 1) := by decide +kernel
theorem dX11_hurtAll_5 : decode cX11_hurtAll 5 = .ok (.aload_n 0, 1) := by decide +kernel
theorem dX11_hurtAll_6 : decode cX11_hurtAll 6 = .ok (.getfield 9, 3) := by decide +kernel
theorem dX11_hurtAll_9 : decode cX11_hurtAll 9 = .ok (.iconst 4, 1) := by decide +kernel
theorem dX11_hurtAll_10 : decode cX11_hurtAll 10 = .ok (.iaload, 1) := by decide +kernel
theorem dX11_hurtAll_11 : decode cX11_hurtAll 11 = .ok (.if_icmp .ge 21, 3) := by decide +kernel
theorem dX11_hurtAll_14 : decode cX11_hurtAll 14 = .ok (.iload_n 1, 1) := by decide +kernel
theorem dX11_hurtAll_15 : decode cX11_hurtAll 15 = .ok (.aload_n 0, 1) := by decide +kernel
theorem dX11_hurtAll_16 : decode cX11_hurtAll 16 = .ok (.getfield 9, 3) := by decide +kernel
theorem dX11_hurtAll_19 : decode cX11_hurtAll 19 = .ok (.bipush 41, 2) := by decide +kernel
theorem dX11_hurtAll_21 : decode cX11_hurtAll 21 = .ok (.iload_n 2, 1) := by decide +kernel
theorem dX11_hurtAll_22 : decode cX11_hurtAll 22 = .ok (.iadd, 1) := by decide +kernel
theorem dX11_hurtAll_23 : decode cX11_hurtAll 23 = .ok (.iaload, 1) := by decide +kernel
theorem dX11_hurtAll_24 : decode cX11_hurtAll 24 = .ok (.iadd, 1) := by decide +kernel
theorem dX11_hurtAll_25 : decode cX11_hurtAll 25 = .ok (.istore_n 1, 1) := by decide +kernel
theorem dX11_hurtAll_26 : decode cX11_hurtAll 26 = .ok (.iinc 2 1, 3) := by decide +kernel
theorem dX11_hurtAll_29 : decode cX11_hurtAll 29 = .ok (.goto (-25), 3) := by decide +kernel
theorem dX11_hurtAll_32 : decode cX11_hurtAll 32 = .ok (.iload_n 1, 1) := by decide +kernel
theorem dX11_hurtAll_33 : decode cX11_hurtAll 33 = .ok (.ireturn, 1) := by decide +kernel
theorem dX11_judge_0 : decode cX11_judge 0 = .ok (.aload_n 0, 1) := by decide +kernel
theorem dX11_judge_1 : decode cX11_judge 1 = .ok (.aload_n 0, 1) := by decide +kernel
theorem dX11_judge_2 : decode cX11_judge 2 = .ok (.iload_n 1, 1) := by decide +kernel
theorem dX11_judge_3 : decode cX11_judge 3 = .ok (.invokevirtual 420, 3) := by decide +kernel
theorem dX11_judge_6 : decode cX11_judge 6 = .ok (.putfield 70, 3) := by decide +kernel
theorem dX11_judge_9 : decode cX11_judge 9 = .ok (.aload_n 0, 1) := by decide +kernel
theorem dX11_judge_10 : decode cX11_judge 10 = .ok (.getfield 70, 3) := by decide +kernel
theorem dX11_judge_13 : decode cX11_judge 13 = .ok (.ifCond .ne 20, 3) := by decide +kernel
theorem dX11_judge_16 : decode cX11_judge 16 = .ok (.iload_n 2, 1) := by decide +kernel
theorem dX11_judge_17 : decode cX11_judge 17 = .ok (.i2l, 1) := by decide +kernel
theorem dX11_judge_18 : decode cX11_judge 18 = .ok (.lconst 0, 1) := by decide +kernel
theorem dX11_judge_19 : decode cX11_judge 19 = .ok (.ldc2_w 423, 3) := by decide +kernel
theorem dX11_judge_22 : decode cX11_judge 22 = .ok (.invokestatic 131, 3) := by decide +kernel
theorem dX11_judge_25 : decode cX11_judge 25 = .ok (.ifCond .ne 8, 3) := by decide +kernel
theorem dX11_judge_28 : decode cX11_judge 28 = .ok (.aload_n 0, 1) := by decide +kernel
theorem dX11_judge_29 : decode cX11_judge 29 = .ok (.iconst 3, 1) := by decide +kernel
theorem dX11_judge_30 : decode cX11_judge 30 = .ok (.putfield 70, 3) := by decide +kernel
theorem dX11_judge_33 : decode cX11_judge 33 = .ok (.aload_n 0, 1) := by decide +kernel
theorem dX11_judge_34 : decode cX11_judge 34 = .ok (.getfield 70, 3) := by decide +kernel
theorem dX11_judge_37 : decode cX11_judge 37 = .ok (.ifCond .le 5, 3) := by decide +kernel
theorem dX11_judge_40 : decode cX11_judge 40 = .ok (.iconst 0, 1) := by decide +kernel
theorem dX11_judge_41 : decode cX11_judge 41 = .ok (.ireturn, 1) := by decide +kernel
theorem dX11_judge_42 : decode cX11_judge 42 = .ok (.aload_n 0, 1) := by decide +kernel
theorem dX11_judge_43 : decode cX11_judge 43 = .ok (.invokevirtual 425, 3) := by decide +kernel
theorem dX11_judge_46 : decode cX11_judge 46 = .ok (.iconst (-1), 1) := by decide +kernel
theorem dX11_judge_47 : decode cX11_judge 47 = .ok (.istore_n 3, 1) := by decide +kernel
theorem dX11_judge_48 : decode cX11_judge 48 = .ok (.iconst 0, 1) := by decide +kernel
theorem dX11_judge_49 : decode cX11_judge 49 = .ok (.istore 4, 2) := by decide +kernel
theorem dX11_judge_51 : decode cX11_judge 51 = .ok (.iconst 0, 1) := by decide +kernel
theorem dX11_judge_52 : decode cX11_judge 52 = .ok (.istore 5, 2) := by decide +kernel
theorem dX11_judge_54 : decode cX11_judge 54 = .ok (.iload 5, 2) := by decide +kernel
theorem dX11_judge_56 : decode cX11_judge 56 = .ok (.aload_n 0, 1) := by decide +kernel
theorem dX11_judge_57 : decode cX11_judge 57 = .ok (.getfield 64, 3) := by decide +kernel
theorem dX11_judge_60 : decode cX11_judge 60 = .ok (.iload_n 1, 1) := by decide +kernel
theorem dX11_judge_61 : decode cX11_judge 61 = .ok (.iaload, 1) := by decide +kernel
theorem dX11_judge_62 : decode cX11_judge 62 = .ok (.if_icmp .ge 60, 3) := by decide +kernel
theorem dX11_judge_65 : decode cX11_judge 65 = .ok (.iload_n 3, 1) := by decide +kernel
theorem dX11_judge_66 : decode cX11_judge 66 = .ok (.iconst (-1), 1) := by decide +kernel
theorem dX11_judge_67 : decode cX11_judge 67 = .ok (.if_icmp .ne 55, 3) := by decide +kernel
theorem dX11_judge_70 : decode cX11_judge 70 = .ok (.aload_n 0, 1) := by decide +kernel
theorem dX11_judge_71 : decode cX11_judge 71 = .ok (.aload_n 0, 1) := by decide +kernel
theorem dX11_judge_72 : decode cX11_judge 72 = .ok (.getfield 67, 3) := by decide +kernel
theorem dX11_judge_75 : decode cX11_judge 75 = .ok (.bipush 30, 2) := by decide +kernel
theorem dX11_judge_77 : decode cX11_judge 77 = .ok (.iload_n 1, 1) := by decide +kernel
theorem dX11_judge_78 : decode cX11_judge 78 = .ok (.imul, 1) := by decide +kernel
theorem dX11_judge_79 : decode cX11_judge 79 = .ok (.iload 5, 2) := by decide +kernel
theorem dX11_judge_81 : decode cX11_judge 81 = .ok (.iadd, 1) := by decide +kernel
theorem dX11_judge_82 : decode cX11_judge 82 = .ok (.laload, 1) := by decide +kernel
theorem dX11_judge_83 : decode cX11_judge 83 = .ok (.invokevirtual 428, 3) := by decide +kernel
theorem dX11_judge_86 : decode cX11_judge 86 = .ok (.istore 4, 2) := by decide +kernel
theorem dX11_judge_88 : decode cX11_judge 88 = .ok (.iload 4, 2) := by decide +kernel
theorem dX11_judge_90 : decode cX11_judge 90 = .ok (.ifCond .ne 23, 3) := by decide +kernel
theorem dX11_judge_93 : decode cX11_judge 93 = .ok (.aload_n 0, 1) := by decide +kernel
theorem dX11_judge_94 : decode cX11_judge 94 = .ok (.aload_n 0, 1) := by decide +kernel
theorem dX11_judge_95 : decode cX11_judge 95 = .ok (.getfield 67, 3) := by decide +kernel
theorem dX11_judge_98 : decode cX11_judge 98 = .ok (.bipush 30, 2) := by decide +kernel
theorem dX11_judge_100 : decode cX11_judge 100 = .ok (.iload_n 1, 1) := by decide +kernel
theorem dX11_judge_101 : decode cX11_judge 101 = .ok (.imul, 1) := by decide +kernel
theorem dX11_judge_102 : decode cX11_judge 102 = .ok (.iload 5, 2) := by decide +kernel
theorem dX11_judge_104 : decode cX11_judge 104 = .ok (.iadd, 1) := by decide +kernel
theorem dX11_judge_105 : decode cX11_judge 105 = .ok (.laload, 1) := by decide +kernel
theorem dX11_judge_106 : decode cX11_judge 106 = .ok (.l2i, 1) := by decide +kernel
theorem dX11_judge_107 : decode cX11_judge 107 = .ok (.invokevirtual 431, 3) := by decide +kernel
theorem dX11_judge_110 : decode cX11_judge 110 = .ok (.goto 6, 3) := by decide +kernel
theorem dX11_judge_113 : decode cX11_judge 113 = .ok (.iload 5, 2) := by decide +kernel
theorem dX11_judge_115 : decode cX11_judge 115 = .ok (.istore_n 3, 1) := by decide +kernel
theorem dX11_judge_116 : decode cX11_judge 116 = .ok (.iinc 5 1, 3) := by decide +kernel
theorem dX11_judge_119 : decode cX11_judge 119 = .ok (.goto (-65), 3) := by decide +kernel
theorem dX11_judge_122 : decode cX11_judge 122 = .ok (.aload_n 0, 1) := by decide +kernel
theorem dX11_judge_123 : decode cX11_judge 123 = .ok (.invokevirtual 434, 3) := by decide +kernel
theorem dX11_judge_126 : decode cX11_judge 126 = .ok (.istore 5, 2) := by decide +kernel
theorem dX11_judge_128 : decode cX11_judge 128 = .ok (.aload_n 0, 1) := by decide +kernel
theorem dX11_judge_129 : decode cX11_judge 129 = .ok (.invokevirtual 437, 3) := by decide +kernel
theorem dX11_judge_132 : decode cX11_judge 132 = .ok (.istore 6, 2) := by decide +kernel
theorem dX11_judge_134 : decode cX11_judge 134 = .ok (.aload_n 0, 1) := by decide +kernel
theorem dX11_judge_135 : decode cX11_judge 135 = .ok (.invokevirtual 440, 3) := by decide +kernel
theorem dX11_judge_138 : decode cX11_judge 138 = .ok (.iload_n 2, 1) := by decide +kernel
theorem dX11_judge_139 : decode cX11_judge 139 = .ok (.ifCond .ne 7, 3) := by decide +kernel
theorem dX11_judge_142 : decode cX11_judge 142 = .ok (.iload_n 3, 1) := by decide +kernel
theorem dX11_judge_143 : decode cX11_judge 143 = .ok (.goto 25, 3) := by decide +kernel
theorem dX11_judge_146 : decode cX11_judge 146 = .ok (.iload_n 2, 1) := by decide +kernel
theorem dX11_judge_147 : decode cX11_judge 147 = .ok (.iconst 1, 1) := by decide +kernel
theorem dX11_judge_148 : decode cX11_judge 148 = .ok (.if_icmp .ne 8, 3) := by decide +kernel
theorem dX11_judge_151 : decode cX11_judge 151 = .ok (.iload 4, 2) := by decide +kernel
theorem dX11_judge_153 : decode cX11_judge 153 = .ok (.goto 15, 3) := by decide +kernel
theorem dX11_judge_156 : decode cX11_judge 156 = .ok (.iload_n 2, 1) := by decide +kernel
theorem dX11_judge_157 : decode cX11_judge 157 = .ok (.iconst 2, 1) := by decide +kernel
theorem dX11_judge_158 : decode cX11_judge 158 = .ok (.if_icmp .ne 8, 3) := by decide +kernel
theorem dX11_judge_161 : decode cX11_judge 161 = .ok (.iload 5, 2) := by decide +kernel
theorem dX11_judge_163 : decode cX11_judge 163 = .ok (.goto 5, 3) := by decide +kernel
theorem dX11_judge_166 : decode cX11_judge 166 = .ok (.iload 6, 2) := by decide +kernel
theorem dX11_judge_168 : decode cX11_judge 168 = .ok (.ireturn, 1) := by decide +kernel
theorem dX11_perform_0 : decode cX11_perform 0 = .ok (.aload_n 0, 1) := by decide +kernel
theorem dX11_perform_1 : decode cX11_perform 1 = .ok (.aload_n 0, 1) := by decide +kernel
theorem dX11_perform_2 : decode cX11_perform 2 = .ok (.iload_n 1, 1) := by decide +kernel
theorem dX11_perform_3 : decode cX11_perform 3 = .ok (.invokevirtual 420, 3) := by decide +kernel
theorem dX11_perform_6 : decode cX11_perform 6 = .ok (.putfield 70, 3) := by decide +kernel
theorem dX11_perform_9 : decode cX11_perform 9 = .ok (.aload_n 0, 1) := by decide +kernel
theorem dX11_perform_10 : decode cX11_perform 10 = .ok (.getfield 70, 3) := by decide +kernel
theorem dX11_perform_13 : decode cX11_perform 13 = .ok (.ifCond .le 5, 3) := by decide +kernel
theorem dX11_perform_16 : decode cX11_perform 16 = .ok (.iconst 0, 1) := by decide +kernel
theorem dX11_perform_17 : decode cX11_perform 17 = .ok (.ireturn, 1) := by decide +kernel
theorem dX11_perform_18 : decode cX11_perform 18 = .ok (.iconst 0, 1) := by decide +kernel
theorem dX11_perform_19 : decode cX11_perform 19 = .ok (.istore_n 2, 1) := by decide +kernel
theorem dX11_perform_20 : decode cX11_perform 20 = .ok (.iload_n 2, 1) := by decide +kernel
theorem dX11_perform_21 : decode cX11_perform 21 = .ok (.aload_n 0, 1) := by decide +kernel
theorem dX11_perform_22 : decode cX11_perform 22 = .ok (.getfield 64, 3) := by decide +kernel
theorem dX11_perform_25 : decode cX11_perform 25 = .ok (.iload_n 1, 1) := by decide +kernel
theorem dX11_perform_26 : decode cX11_perform 26 = .ok (.iaload, 1) := by decide +kernel
theorem dX11_perform_27 : decode cX11_perform 27 = .ok (.if_icmp .ge 47, 3) := by decide +kernel
theorem dX11_perform_30 : decode cX11_perform 30 = .ok (.aload_n 0, 1) := by decide +kernel
theorem dX11_perform_31 : decode cX11_perform 31 = .ok (.aload_n 0, 1) := by decide +kernel
theorem dX11_perform_32 : decode cX11_perform 32 = .ok (.getfield 67, 3) := by decide +kernel
theorem dX11_perform_35 : decode cX11_perform 35 = .ok (.bipush 30, 2) := by decide +kernel
theorem dX11_perform_37 : decode cX11_perform 37 = .ok (.iload_n 1, 1) := by decide +kernel
theorem dX11_perform_38 : decode cX11_perform 38 = .ok (.imul, 1) := by decide +kernel
theorem dX11_perform_39 : decode cX11_perform 39 = .ok (.iload_n 2, 1) := by decide +kernel
theorem dX11_perform_40 : decode cX11_perform 40 = .ok (.iadd, 1) := by decide +kernel
theorem dX11_perform_41 : decode cX11_perform 41 = .ok (.laload, 1) := by decide +kernel
theorem dX11_perform_42 : decode cX11_perform 42 = .ok (.invokevirtual 428, 3) := by decide +kernel
theorem dX11_perform_45 : decode cX11_perform 45 = .ok (.ifCond .ne 29, 3) := by decide +kernel
theorem dX11_perform_48 : decode cX11_perform 48 = .ok (.aload_n 0, 1) := by decide +kernel
theorem dX11_perform_49 : decode cX11_perform 49 = .ok (.invokevirtual 383, 3) := by decide +kernel
theorem dX11_perform_52 : decode cX11_perform 52 = .ok (.aload_n 0, 1) := by decide +kernel
theorem dX11_perform_53 : decode cX11_perform 53 = .ok (.aload_n 0, 1) := by decide +kernel
theorem dX11_perform_54 : decode cX11_perform 54 = .ok (.getfield 67, 3) := by decide +kernel
theorem dX11_perform_57 : decode cX11_perform 57 = .ok (.bipush 30, 2) := by decide +kernel
theorem dX11_perform_59 : decode cX11_perform 59 = .ok (.iload_n 1, 1) := by decide +kernel
theorem dX11_perform_60 : decode cX11_perform 60 = .ok (.imul, 1) := by decide +kernel
theorem dX11_perform_61 : decode cX11_perform 61 = .ok (.iload_n 2, 1) := by decide +kernel
theorem dX11_perform_62 : decode cX11_perform 62 = .ok (.iadd, 1) := by decide +kernel
theorem dX11_perform_63 : decode cX11_perform 63 = .ok (.laload, 1) := by decide +kernel
theorem dX11_perform_64 : decode cX11_perform 64 = .ok (.l2i, 1) := by decide +kernel
theorem dX11_perform_65 : decode cX11_perform 65 = .ok (.invokevirtual 431, 3) := by decide +kernel
theorem dX11_perform_68 : decode cX11_perform 68 = .ok (.iinc 2 1, 3) := by decide +kernel
theorem dX11_perform_71 : decode cX11_perform 71 = .ok (.goto (-51), 3) := by decide +kernel
theorem dX11_perform_74 : decode cX11_perform 74 = .ok (.iload_n 2, 1) := by decide +kernel
theorem dX11_perform_75 : decode cX11_perform 75 = .ok (.ireturn, 1) := by decide +kernel
theorem dX11_draw_0 : decode cX11_draw 0 = .ok (.aload_n 0, 1) := by decide +kernel
theorem dX11_draw_1 : decode cX11_draw 1 = .ok (.ldc_w 443, 3) := by decide +kernel
theorem dX11_draw_4 : decode cX11_draw 4 = .ok (.aload_n 0, 1) := by decide +kernel
theorem dX11_draw_5 : decode cX11_draw 5 = .ok (.getfield 444, 3) := by decide +kernel
theorem dX11_draw_8 : decode cX11_draw 8 = .ok (.imul, 1) := by decide +kernel
theorem dX11_draw_9 : decode cX11_draw 9 = .ok (.sipush 12345, 3) := by decide +kernel
theorem dX11_draw_12 : decode cX11_draw 12 = .ok (.iadd, 1) := by decide +kernel
theorem dX11_draw_13 : decode cX11_draw 13 = .ok (.putfield 444, 3) := by decide +kernel
theorem dX11_draw_16 : decode cX11_draw 16 = .ok (.aload_n 0, 1) := by decide +kernel
theorem dX11_draw_17 : decode cX11_draw 17 = .ok (.getfield 444, 3) := by decide +kernel
theorem dX11_draw_20 : decode cX11_draw 20 = .ok (.bipush 16, 2) := by decide +kernel
theorem dX11_draw_22 : decode cX11_draw 22 = .ok (.iushr, 1) := by decide +kernel
theorem dX11_draw_23 : decode cX11_draw 23 = .ok (.iload_n 1, 1) := by decide +kernel
theorem dX11_draw_24 : decode cX11_draw 24 = .ok (.irem, 1) := by decide +kernel
theorem dX11_draw_25 : decode cX11_draw 25 = .ok (.ireturn, 1) := by decide +kernel
theorem dX11_season_0 : decode cX11_season 0 = .ok (.aload_n 0, 1) := by decide +kernel
theorem dX11_season_1 : decode cX11_season 1 = .ok (.iconst 0, 1) := by decide +kernel
theorem dX11_season_2 : decode cX11_season 2 = .ok (.putfield 70, 3) := by decide +kernel
theorem dX11_season_5 : decode cX11_season 5 = .ok (.iload_n 2, 1) := by decide +kernel
theorem dX11_season_6 : decode cX11_season 6 = .ok (.i2l, 1) := by decide +kernel
theorem dX11_season_7 : decode cX11_season 7 = .ok (.lconst 1, 1) := by decide +kernel
theorem dX11_season_8 : decode cX11_season 8 = .ok (.ldc2_w 447, 3) := by decide +kernel
theorem dX11_season_11 : decode cX11_season 11 = .ok (.invokestatic 131, 3) := by decide +kernel
theorem dX11_season_14 : decode cX11_season 14 = .ok (.ifCond .ne 9, 3) := by decide +kernel
theorem dX11_season_17 : decode cX11_season 17 = .ok (.aload_n 0, 1) := by decide +kernel
theorem dX11_season_18 : decode cX11_season 18 = .ok (.iconst 1, 1) := by decide +kernel
theorem dX11_season_19 : decode cX11_season 19 = .ok (.invokevirtual 269, 3) := by decide +kernel
theorem dX11_season_22 : decode cX11_season 22 = .ok (.ireturn, 1) := by decide +kernel
theorem dX11_season_23 : decode cX11_season 23 = .ok (.aload_n 0, 1) := by decide +kernel
theorem dX11_season_24 : decode cX11_season 24 = .ok (.iload_n 1, 1) := by decide +kernel
theorem dX11_season_25 : decode cX11_season 25 = .ok (.putfield 444, 3) := by decide +kernel
theorem dX11_season_28 : decode cX11_season 28 = .ok (.iconst 0, 1) := by decide +kernel
theorem dX11_season_29 : decode cX11_season 29 = .ok (.istore_n 3, 1) := by decide +kernel
theorem dX11_season_30 : decode cX11_season 30 = .ok (.iconst 0, 1) := by decide +kernel
theorem dX11_season_31 : decode cX11_season 31 = .ok (.istore 4, 2) := by decide +kernel
theorem dX11_season_33 : decode cX11_season 33 = .ok (.iload 4, 2) := by decide +kernel
theorem dX11_season_35 : decode cX11_season 35 = .ok (.iload_n 2, 1) := by decide +kernel
theorem dX11_season_36 : decode cX11_season 36 = .ok (.if_icmp .ge 143, 3) := by decide +kernel
theorem dX11_season_39 : decode cX11_season 39 = .ok (.aload_n 0, 1) := by decide +kernel
theorem dX11_season_40 : decode cX11_season 40 = .ok (.iconst 4, 1) := by decide +kernel
theorem dX11_season_41 : decode cX11_season 41 = .ok (.invokevirtual 449, 3) := by decide +kernel
theorem dX11_season_44 : decode cX11_season 44 = .ok (.istore 5, 2) := by decide +kernel
theorem dX11_season_46 : decode cX11_season 46 = .ok (.iload 5, 2) := by decide +kernel
theorem dX11_season_48 : decode cX11_season 48 = .ok (.iconst 1, 1) := by decide +kernel
theorem dX11_season_49 : decode cX11_season 49 = .ok (.if_icmp .le 13, 3) := by decide +kernel
theorem dX11_season_52 : decode cX11_season 52 = .ok (.aload_n 0, 1) := by decide +kernel
theorem dX11_season_53 : decode cX11_season 53 = .ok (.invokevirtual 280, 3) := by decide +kernel
theorem dX11_season_56 : decode cX11_season 56 = .ok (.ifCond .ne 6, 3) := by decide +kernel
theorem dX11_season_59 : decode cX11_season 59 = .ok (.goto 114, 3) := by decide +kernel
theorem dX11_season_62 : decode cX11_season 62 = .ok (.iconst (-1), 1) := by decide +kernel
theorem dX11_season_63 : decode cX11_season 63 = .ok (.istore 6, 2) := by decide +kernel
theorem dX11_season_65 : decode cX11_season 65 = .ok (.iload 5, 2) := by decide +kernel
theorem dX11_season_67 : decode cX11_season 67 = .ok (.iconst 1, 1) := by decide +kernel
theorem dX11_season_68 : decode cX11_season 68 = .ok (.if_icmp .le 40, 3) := by decide +kernel
theorem dX11_season_71 : decode cX11_season 71 = .ok (.aload_n 0, 1) := by decide +kernel
theorem dX11_season_72 : decode cX11_season 72 = .ok (.aload_n 0, 1) := by decide +kernel
theorem dX11_season_73 : decode cX11_season 73 = .ok (.invokevirtual 280, 3) := by decide +kernel
theorem dX11_season_76 : decode cX11_season 76 = .ok (.invokevirtual 449, 3) := by decide +kernel
theorem dX11_season_79 : decode cX11_season 79 = .ok (.iload 5, 2) := by decide +kernel
theorem dX11_season_81 : decode cX11_season 81 = .ok (.iconst 2, 1) := by decide +kernel
theorem dX11_season_82 : decode cX11_season 82 = .ok (.if_icmp .ne 8, 3) := by decide +kernel
theorem dX11_season_85 : decode cX11_season 85 = .ok (.bipush 100, 2) := by decide +kernel
theorem dX11_season_87 : decode cX11_season 87 = .ok (.goto 4, 3) := by decide +kernel
theorem dX11_season_90 : decode cX11_season 90 = .ok (.iconst 1, 1) := by decide +kernel
theorem dX11_season_91 : decode cX11_season 91 = .ok (.imul, 1) := by decide +kernel
theorem dX11_season_92 : decode cX11_season 92 = .ok (.iload 5, 2) := by decide +kernel
theorem dX11_season_94 : decode cX11_season 94 = .ok (.iconst 2, 1) := by decide +kernel
theorem dX11_season_95 : decode cX11_season 95 = .ok (.if_icmp .ne 7, 3) := by decide +kernel
theorem dX11_season_98 : decode cX11_season 98 = .ok (.iconst 0, 1) := by decide +kernel
theorem dX11_season_99 : decode cX11_season 99 = .ok (.goto 6, 3) := by decide +kernel
theorem dX11_season_102 : decode cX11_season 102 = .ok (.sipush 1000, 3) := by decide +kernel
theorem dX11_season_105 : decode cX11_season 105 = .ok (.iadd, 1) := by decide +kernel
theorem dX11_season_106 : decode cX11_season 106 = .ok (.istore 6, 2) := by decide +kernel
theorem dX11_season_108 : decode cX11_season 108 = .ok (.iload 5, 2) := by decide +kernel
theorem dX11_season_110 : decode cX11_season 110 = .ok (.iconst 2, 1) := by decide +kernel
theorem dX11_season_111 : decode cX11_season 111 = .ok (.if_icmp .ne 36, 3) := by decide +kernel
theorem dX11_season_114 : decode cX11_season 114 = .ok (.iload 6, 2) := by decide +kernel
theorem dX11_season_116 : decode cX11_season 116 = .ok (.bipush 10, 2) := by decide +kernel
theorem dX11_season_118 : decode cX11_season 118 = .ok (.aload_n 0, 1) := by decide +kernel
theorem dX11_season_119 : decode cX11_season 119 = .ok (.aload_n 0, 1) := by decide +kernel
theorem dX11_season_120 : decode cX11_season 120 = .ok (.getfield 9, 3) := by decide +kernel
theorem dX11_season_123 : decode cX11_season 123 = .ok (.iconst 1, 1) := by decide +kernel
theorem dX11_season_124 : decode cX11_season 124 = .ok (.iaload, 1) := by decide +kernel
theorem dX11_season_125 : decode cX11_season 125 = .ok (.invokevirtual 449, 3) := by decide +kernel
theorem dX11_season_128 : decode cX11_season 128 = .ok (.imul, 1) := by decide +kernel
theorem dX11_season_129 : decode cX11_season 129 = .ok (.iadd, 1) := by decide +kernel
theorem dX11_season_130 : decode cX11_season 130 = .ok (.istore 6, 2) := by decide +kernel
theorem dX11_season_132 : decode cX11_season 132 = .ok (.iload 6, 2) := by decide +kernel
theorem dX11_season_134 : decode cX11_season 134 = .ok (.aload_n 0, 1) := by decide +kernel
theorem dX11_season_135 : decode cX11_season 135 = .ok (.aload_n 0, 1) := by decide +kernel
theorem dX11_season_136 : decode cX11_season 136 = .ok (.getfield 9, 3) := by decide +kernel
theorem dX11_season_139 : decode cX11_season 139 = .ok (.iconst 2, 1) := by decide +kernel
theorem dX11_season_140 : decode cX11_season 140 = .ok (.iaload, 1) := by decide +kernel
theorem dX11_season_141 : decode cX11_season 141 = .ok (.invokevirtual 449, 3) := by decide +kernel
theorem dX11_season_144 : decode cX11_season 144 = .ok (.iadd, 1) := by decide +kernel
theorem dX11_season_145 : decode cX11_season 145 = .ok (.istore 6, 2) := by decide +kernel
theorem dX11_season_147 : decode cX11_season 147 = .ok (.aload_n 0, 1) := by decide +kernel
theorem dX11_season_148 : decode cX11_season 148 = .ok (.iload 6, 2) := by decide +kernel
theorem dX11_season_150 : decode cX11_season 150 = .ok (.i2l, 1) := by decide +kernel
theorem dX11_season_151 : decode cX11_season 151 = .ok (.invokevirtual 428, 3) := by decide +kernel
theorem dX11_season_154 : decode cX11_season 154 = .ok (.ifCond .eq 6, 3) := by decide +kernel
theorem dX11_season_157 : decode cX11_season 157 = .ok (.goto 16, 3) := by decide +kernel
theorem dX11_season_160 : decode cX11_season 160 = .ok (.aload_n 0, 1) := by decide +kernel
theorem dX11_season_161 : decode cX11_season 161 = .ok (.invokevirtual 383, 3) := by decide +kernel
theorem dX11_season_164 : decode cX11_season 164 = .ok (.aload_n 0, 1) := by decide +kernel
theorem dX11_season_165 : decode cX11_season 165 = .ok (.iload 6, 2) := by decide +kernel
theorem dX11_season_167 : decode cX11_season 167 = .ok (.invokevirtual 431, 3) := by decide +kernel
theorem dX11_season_170 : decode cX11_season 170 = .ok (.iinc 3 1, 3) := by decide +kernel
theorem dX11_season_173 : decode cX11_season 173 = .ok (.iinc 4 1, 3) := by decide +kernel
theorem dX11_season_176 : decode cX11_season 176 = .ok (.goto (-143), 3) := by decide +kernel
theorem dX11_season_179 : decode cX11_season 179 = .ok (.iload_n 3, 1) := by decide +kernel
theorem dX11_season_180 : decode cX11_season 180 = .ok (.ireturn, 1) := by decide +kernel
theorem dX11_falls_0 : decode cX11_falls 0 = .ok (.aload_n 0, 1) := by decide +kernel
theorem dX11_falls_1 : decode cX11_falls 1 = .ok (.iconst 0, 1) := by decide +kernel
theorem dX11_falls_2 : decode cX11_falls 2 = .ok (.putfield 70, 3) := by decide +kernel
theorem dX11_falls_5 : decode cX11_falls 5 = .ok (.aload_n 0, 1) := by decide +kernel
theorem dX11_falls_6 : decode cX11_falls 6 = .ok (.iload_n 1, 1) := by decide +kernel
