theorem dX10_init_60 : decode cX10_init 60 = .ok (.astore_n 1, 1) := by decide +kernel
theorem dX10_init_61 : decode cX10_init 61 = .ok (.aload_n 0, 1) := by decide +kernel
theorem dX10_init_62 : decode cX10_init 62 = .ok (.new 45, 3) := by decide +kernel
theorem dX10_init_65 : decode cX10_init 65 = .ok (.dup, 1) := by decide +kernel
theorem dX10_init_66 : decode cX10_init 66 = .ok (.aload_n 1, 1) := by decide +kernel
theorem dX10_init_67 : decode cX10_init 67 = .ok (.invokespecial 47, 3) := by decide +kernel
theorem dX10_init_70 : decode cX10_init 70 = .ok (.putfield 50, 3) := by decide +kernel
theorem dX10_init_73 : decode cX10_init 73 = .ok (.aload_n 0, 1) := by decide +kernel
theorem dX10_init_74 : decode cX10_init 74 = .ok (.new 54, 3) := by decide +kernel
theorem dX10_init_77 : decode cX10_init 77 = .ok (.dup, 1) := by decide +kernel
theorem dX10_init_78 : decode cX10_init 78 = .ok (.aload_n 1, 1) := by decide +kernel
theorem dX10_init_79 : decode cX10_init 79 = .ok (.invokespecial 56, 3) := by decide +kernel
theorem dX10_init_82 : decode cX10_init 82 = .ok (.putfield 57, 3) := by decide +kernel
theorem dX10_init_85 : decode cX10_init 85 = .ok (.aload_n 0, 1) := by decide +kernel
theorem dX10_init_86 : decode cX10_init 86 = .ok (.new 61, 3) := by decide +kernel
theorem dX10_init_89 : decode cX10_init 89 = .ok (.dup, 1) := by decide +kernel
theorem dX10_init_90 : decode cX10_init 90 = .ok (.aload_n 1, 1) := by decide +kernel
theorem dX10_init_91 : decode cX10_init 91 = .ok (.invokespecial 63, 3) := by decide +kernel
theorem dX10_init_94 : decode cX10_init 94 = .ok (.putfield 64, 3) := by decide +kernel
theorem dX10_init_97 : decode cX10_init 97 = .ok (.aload_n 0, 1) := by decide +kernel
theorem dX10_init_98 : decode cX10_init 98 = .ok (.new 68, 3) := by decide +kernel
theorem dX10_init_101 : decode cX10_init 101 = .ok (.dup, 1) := by decide +kernel
theorem dX10_init_102 : decode cX10_init 102 = .ok (.aload_n 1, 1) := by decide +kernel
theorem dX10_init_103 : decode cX10_init 103 = .ok (.invokespecial 70, 3) := by decide +kernel
theorem dX10_init_106 : decode cX10_init 106 = .ok (.putfield 71, 3) := by decide +kernel
theorem dX10_init_109 : decode cX10_init 109 = .ok (.iconst 0, 1) := by decide +kernel
theorem dX10_init_110 : decode cX10_init 110 = .ok (.istore_n 2, 1) := by decide +kernel
theorem dX10_init_111 : decode cX10_init 111 = .ok (.iload_n 2, 1) := by decide +kernel
theorem dX10_init_112 : decode cX10_init 112 = .ok (.iconst 4, 1) := by decide +kernel
theorem dX10_init_113 : decode cX10_init 113 = .ok (.if_icmp .ge 22, 3) := by decide +kernel
theorem dX10_init_116 : decode cX10_init 116 = .ok (.aload_n 0, 1) := by decide +kernel
theorem dX10_init_117 : decode cX10_init 117 = .ok (.getfield 32, 3) := by decide +kernel
theorem dX10_init_120 : decode cX10_init 120 = .ok (.iload_n 2, 1) := by decide +kernel
theorem dX10_init_121 : decode cX10_init 121 = .ok (.new 30, 3) := by decide +kernel
theorem dX10_init_124 : decode cX10_init 124 = .ok (.dup, 1) := by decide +kernel
theorem dX10_init_125 : decode cX10_init 125 = .ok (.invokespecial 75, 3) := by decide +kernel
theorem dX10_init_128 : decode cX10_init 128 = .ok (.aastore, 1) := by decide +kernel
theorem dX10_init_129 : decode cX10_init 129 = .ok (.iinc 2 1, 3) := by decide +kernel
theorem dX10_init_132 : decode cX10_init 132 = .ok (.goto (-21), 3) := by decide +kernel
theorem dX10_init_135 : decode cX10_init 135 = .ok (.return_, 1) := by decide +kernel
theorem dX10_feed_0 : decode cX10_feed 0 = .ok (.aload_n 0, 1) := by decide +kernel
theorem dX10_feed_1 : decode cX10_feed 1 = .ok (.getfield 76, 3) := by decide +kernel
theorem dX10_feed_4 : decode cX10_feed 4 = .ok (.bipush 20, 2) := by decide +kernel
theorem dX10_feed_6 : decode cX10_feed 6 = .ok (.iadd, 1) := by decide +kernel
theorem dX10_feed_7 : decode cX10_feed 7 = .ok (.sipush 900, 3) := by decide +kernel
theorem dX10_feed_10 : decode cX10_feed 10 = .ok (.if_icmp .le 5, 3) := by decide +kernel
theorem dX10_feed_15 : decode cX10_feed 15 = .ok (.aload_n 0, 1) := by decide +kernel
theorem dX10_feed_16 : decode cX10_feed 16 = .ok (.iload_n 1, 1) := by decide +kernel
theorem dX10_feed_17 : decode cX10_feed 17 = .ok (.invokevirtual 79, 3) := by decide +kernel
theorem dX10_feed_20 : decode cX10_feed 20 = .ok (.aload_n 0, 1) := by decide +kernel
theorem dX10_feed_21 : decode cX10_feed 21 = .ok (.iload_n 2, 1) := by decide +kernel
theorem dX10_feed_22 : decode cX10_feed 22 = .ok (.invokevirtual 79, 3) := by decide +kernel
theorem dX10_feed_25 : decode cX10_feed 25 = .ok (.aload_n 0, 1) := by decide +kernel
theorem dX10_feed_26 : decode cX10_feed 26 = .ok (.iload_n 3, 1) := by decide +kernel
theorem dX10_feed_27 : decode cX10_feed 27 = .ok (.invokevirtual 79, 3) := by decide +kernel
theorem dX10_feed_30 : decode cX10_feed 30 = .ok (.aload_n 0, 1) := by decide +kernel
theorem dX10_feed_31 : decode cX10_feed 31 = .ok (.iload 4, 2) := by decide +kernel
theorem dX10_feed_33 : decode cX10_feed 33 = .ok (.invokevirtual 79, 3) := by decide +kernel
theorem dX10_feed_36 : decode cX10_feed 36 = .ok (.aload_n 0, 1) := by decide +kernel
theorem dX10_feed_37 : decode cX10_feed 37 = .ok (.iload 5, 2) := by decide +kernel
theorem dX10_feed_39 : decode cX10_feed 39 = .ok (.invokevirtual 79, 3) := by decide +kernel
theorem dX10_feed_42 : decode cX10_feed 42 = .ok (.aload_n 0, 1) := by decide +kernel
theorem dX10_feed_43 : decode cX10_feed 43 = .ok (.getfield 76, 3) := by decide +kernel
theorem dX10_feed_46 : decode cX10_feed 46 = .ok (.ireturn, 1) := by decide +kernel
theorem dX10_putBytes_0 : decode cX10_putBytes 0 = .ok (.bipush 24, 2) := by decide +kernel
theorem dX10_putBytes_2 : decode cX10_putBytes 2 = .ok (.istore_n 2, 1) := by decide +kernel
theorem dX10_putBytes_3 : decode cX10_putBytes 3 = .ok (.iload_n 2, 1) := by decide +kernel
theorem dX10_putBytes_4 : decode cX10_putBytes 4 = .ok (.ifCond .lt 42, 3) := by decide +kernel
theorem dX10_putBytes_7 : decode cX10_putBytes 7 = .ok (.aload_n 0, 1) := by decide +kernel
theorem dX10_putBytes_8 : decode cX10_putBytes 8 = .ok (.getfield 76, 3) := by decide +kernel
theorem dX10_putBytes_11 : decode cX10_putBytes 11 = .ok (.sipush 900, 3) := by decide +kernel
theorem dX10_putBytes_14 : decode cX10_putBytes 14 = .ok (.if_icmp .ge 32, 3) := by decide +kernel
theorem dX10_putBytes_17 : decode cX10_putBytes 17 = .ok (.aload_n 0, 1) := by decide +kernel
theorem dX10_putBytes_18 : decode cX10_putBytes 18 = .ok (.getfield 11, 3) := by decide +kernel
theorem dX10_putBytes_21 : decode cX10_putBytes 21 = .ok (.aload_n 0, 1) := by decide +kernel
theorem dX10_putBytes_22 : decode cX10_putBytes 22 = .ok (.getfield 76, 3) := by decide +kernel
theorem dX10_putBytes_25 : decode cX10_putBytes 25 = .ok (.iload_n 1, 1) := by decide +kernel
theorem dX10_putBytes_26 : decode cX10_putBytes 26 = .ok (.iload_n 2, 1) := by decide +kernel
theorem dX10_putBytes_27 : decode cX10_putBytes 27 = .ok (.iushr, 1) := by decide +kernel
theorem dX10_putBytes_28 : decode cX10_putBytes 28 = .ok (.i2b, 1) := by decide +kernel
theorem dX10_putBytes_29 : decode cX10_putBytes 29 = .ok (.bastore, 1) := by decide +kernel
theorem dX10_putBytes_30 : decode cX10_putBytes 30 = .ok (.aload_n 0, 1) := by decide +kernel
theorem dX10_putBytes_31 : decode cX10_putBytes 31 = .ok (.dup, 1) := by decide +kernel
theorem dX10_putBytes_32 : decode cX10_putBytes 32 = .ok (.getfield 76, 3) := by decide +kernel
theorem dX10_putBytes_35 : decode cX10_putBytes 35 = .ok (.iconst 1, 1) := by decide +kernel
theorem dX10_putBytes_36 : decode cX10_putBytes 36 = .ok (.iadd, 1) := by decide +kernel
theorem dX10_putBytes_37 : decode cX10_putBytes 37 = .ok (.putfield 76, 3) := by decide +kernel
theorem dX10_putBytes_40 : decode cX10_putBytes 40 = .ok (.iinc 2 (-8), 3) := by decide +kernel
theorem dX10_putBytes_43 : decode cX10_putBytes 43 = .ok (.goto (-40), 3) := by decide +kernel
theorem dX10_putBytes_46 : decode cX10_putBytes 46 = .ok (.return_, 1) := by decide +kernel
theorem dX10_district_0 : decode cX10_district 0 = .ok (.iload_n 1, 1) := by decide +kernel
theorem dX10_district_1 : decode cX10_district 1 = .ok (.ifCond .lt 11, 3) := by decide +kernel
theorem dX10_district_4 : decode cX10_district 4 = .ok (.iload_n 1, 1) := by decide +kernel
theorem dX10_district_5 : decode cX10_district 5 = .ok (.aload_n 0, 1) := by decide +kernel
theorem dX10_district_6 : decode cX10_district 6 = .ok (.getfield 76, 3) := by decide +kernel
theorem dX10_district_9 : decode cX10_district 9 = .ok (.if_icmp .le 13, 3) := by decide +kernel
theorem dX10_district_12 : decode cX10_district 12 = .ok (.new 83, 3) := by decide +kernel
theorem dX10_district_15 : decode cX10_district 15 = .ok (.dup, 1) := by decide +kernel
theorem dX10_district_16 : decode cX10_district 16 = .ok (.ldc 85, 2) := by decide +kernel
theorem dX10_district_18 : decode cX10_district 18 = .ok (.invokespecial 87, 3) := by decide +kernel
theorem dX10_district_21 : decode cX10_district 21 = .ok (.athrow, 1) := by decide +kernel
theorem dX10_district_22 : decode cX10_district 22 = .ok (.aload_n 0, 1) := by decide +kernel
theorem dX10_district_23 : decode cX10_district 23 = .ok (.getfield 50, 3) := by decide +kernel
theorem dX10_district_26 : decode cX10_district 26 = .ok (.aload_n 0, 1) := by decide +kernel
theorem dX10_district_27 : decode cX10_district 27 = .ok (.getfield 11, 3) := by decide +kernel
theorem dX10_district_30 : decode cX10_district 30 = .ok (.iload_n 1, 1) := by decide +kernel
theorem dX10_district_31 : decode cX10_district 31 = .ok (.invokevirtual 90, 3) := by decide +kernel
theorem dX10_district_34 : decode cX10_district 34 = .ok (.aload_n 0, 1) := by decide +kernel
theorem dX10_district_35 : decode cX10_district 35 = .ok (.iconst 0, 1) := by decide +kernel
theorem dX10_district_36 : decode cX10_district 36 = .ok (.putfield 76, 3) := by decide +kernel
theorem dX10_district_39 : decode cX10_district 39 = .ok (.aload_n 0, 1) := by decide +kernel
theorem dX10_district_40 : decode cX10_district 40 = .ok (.aload_n 0, 1) := by decide +kernel
theorem dX10_district_41 : decode cX10_district 41 = .ok (.getfield 50, 3) := by decide +kernel
theorem dX10_district_44 : decode cX10_district 44 = .ok (.getfield 94, 3) := by decide +kernel
theorem dX10_district_47 : decode cX10_district 47 = .ok (.putfield 97, 3) := by decide +kernel
theorem dX10_district_50 : decode cX10_district 50 = .ok (.aload_n 0, 1) := by decide +kernel
theorem dX10_district_51 : decode cX10_district 51 = .ok (.aload_n 0, 1) := by decide +kernel
theorem dX10_district_52 : decode cX10_district 52 = .ok (.getfield 50, 3) := by decide +kernel
theorem dX10_district_55 : decode cX10_district 55 = .ok (.getfield 100, 3) := by decide +kernel
theorem dX10_district_58 : decode cX10_district 58 = .ok (.putfield 15, 3) := by decide +kernel
theorem dX10_district_61 : decode cX10_district 61 = .ok (.aload_n 0, 1) := by decide +kernel
theorem dX10_district_62 : decode cX10_district 62 = .ok (.getfield 97, 3) := by decide +kernel
theorem dX10_district_65 : decode cX10_district 65 = .ok (.ifCond .eq 11, 3) := by decide +kernel
theorem dX10_district_68 : decode cX10_district 68 = .ok (.bipush (-10), 2) := by decide +kernel
theorem dX10_district_70 : decode cX10_district 70 = .ok (.aload_n 0, 1) := by decide +kernel
theorem dX10_district_71 : decode cX10_district 71 = .ok (.getfield 97, 3) := by decide +kernel
theorem dX10_district_74 : decode cX10_district 74 = .ok (.isub, 1) := by decide +kernel
theorem dX10_district_75 : decode cX10_district 75 = .ok (.ireturn, 1) := by decide +kernel
theorem dX10_fault_0 : decode cX10_fault 0 = .ok (.iload_n 1, 1) := by decide +kernel
theorem dX10_fault_1 : decode cX10_fault 1 = .ok (.ifCond .ne 8, 3) := by decide +kernel
theorem dX10_fault_4 : decode cX10_fault 4 = .ok (.aload_n 0, 1) := by decide +kernel
theorem dX10_fault_5 : decode cX10_fault 5 = .ok (.getfield 97, 3) := by decide +kernel
theorem dX10_fault_8 : decode cX10_fault 8 = .ok (.ireturn, 1) := by decide +kernel
theorem dX10_fault_9 : decode cX10_fault 9 = .ok (.iload_n 1, 1) := by decide +kernel
theorem dX10_fault_10 : decode cX10_fault 10 = .ok (.iconst 1, 1) := by decide +kernel
theorem dX10_fault_11 : decode cX10_fault 11 = .ok (.if_icmp .ne 10, 3) := by decide +kernel
theorem dX10_fault_14 : decode cX10_fault 14 = .ok (.aload_n 0, 1) := by decide +kernel
theorem dX10_fault_15 : decode cX10_fault 15 = .ok (.getfield 15, 3) := by decide +kernel
theorem dX10_fault_18 : decode cX10_fault 18 = .ok (.goto 4, 3) := by decide +kernel
theorem dX10_fault_21 : decode cX10_fault 21 = .ok (.iconst (-1), 1) := by decide +kernel
theorem dX10_fault_22 : decode cX10_fault 22 = .ok (.ireturn, 1) := by decide +kernel
theorem dX10_thing_0 : decode cX10_thing 0 = .ok (.aload_n 0, 1) := by decide +kernel
theorem dX10_thing_1 : decode cX10_thing 1 = .ok (.iload_n 1, 1) := by decide +kernel
theorem dX10_thing_2 : decode cX10_thing 2 = .ok (.invokevirtual 120, 3) := by decide +kernel
theorem dX10_walker_0 : decode cX10_walker 0 = .ok (.aload_n 0, 1) := by decide +kernel
theorem dX10_walker_1 : decode cX10_walker 1 = .ok (.iload_n 1, 1) := by decide +kernel
theorem dX10_walker_2 : decode cX10_walker 2 = .ok (.invokevirtual 143, 3) := by decide +kernel
theorem dX10_height_0 : decode cX10_height 0 = .ok (.aload_n 0, 1) := by decide +kernel
theorem dX10_height_1 : decode cX10_height 1 = .ok (.iload_n 1, 1) := by decide +kernel
theorem dX10_height_2 : decode cX10_height 2 = .ok (.invokevirtual 156, 3) := by decide +kernel
theorem dX10_height_5 : decode cX10_height 5 = .ok (.aload_n 0, 1) := by decide +kernel
theorem dX10_height_6 : decode cX10_height 6 = .ok (.getfield 57, 3) := by decide +kernel
theorem dX10_height_9 : decode cX10_height 9 = .ok (.iload_n 1, 1) := by decide +kernel
theorem dX10_height_10 : decode cX10_height 10 = .ok (.invokevirtual 159, 3) := by decide +kernel
theorem dX10_height_13 : decode cX10_height 13 = .ok (.ireturn, 1) := by decide +kernel
theorem dX10_at_0 : decode cX10_at 0 = .ok (.aload_n 0, 1) := by decide +kernel
theorem dX10_at_1 : decode cX10_at 1 = .ok (.iload_n 1, 1) := by decide +kernel
theorem dX10_at_2 : decode cX10_at 2 = .ok (.iload_n 2, 1) := by decide +kernel
theorem dX10_at_3 : decode cX10_at 3 = .ok (.invokevirtual 163, 3) := by decide +kernel
theorem dX10_at_6 : decode cX10_at 6 = .ok (.aload_n 0, 1) := by decide +kernel
theorem dX10_at_7 : decode cX10_at 7 = .ok (.getfield 57, 3) := by decide +kernel
theorem dX10_at_10 : decode cX10_at 10 = .ok (.iload_n 1, 1) := by decide +kernel
theorem dX10_at_11 : decode cX10_at 11 = .ok (.iload_n 2, 1) := by decide +kernel
theorem dX10_at_12 : decode cX10_at 12 = .ok (.invokevirtual 167, 3) := by decide +kernel
theorem dX10_at_15 : decode cX10_at 15 = .ok (.ireturn, 1) := by decide +kernel
theorem dX10_hanging_0 : decode cX10_hanging 0 = .ok (.aload_n 0, 1) := by decide +kernel
theorem dX10_hanging_1 : decode cX10_hanging 1 = .ok (.iload_n 1, 1) := by decide +kernel
theorem dX10_hanging_2 : decode cX10_hanging 2 = .ok (.invokevirtual 120, 3) := by decide +kernel
theorem dX10_needThing_0 : decode cX10_needThing 0 = .ok (.iload_n 1, 1) := by decide +kernel
theorem dX10_needThing_1 : decode cX10_needThing 1 = .ok (.ifCond .lt 17, 3) := by decide +kernel
theorem dX10_needThing_4 : decode cX10_needThing 4 = .ok (.iload_n 1, 1) := by decide +kernel
theorem dX10_needThing_5 : decode cX10_needThing 5 = .ok (.aload_n 0, 1) := by decide +kernel
theorem dX10_needThing_6 : decode cX10_needThing 6 = .ok (.getfield 57, 3) := by decide +kernel
theorem dX10_needThing_9 : decode cX10_needThing 9 = .ok (.getfield 113, 3) := by decide +kernel
theorem dX10_needThing_12 : decode cX10_needThing 12 = .ok (.getfield 178, 3) := by decide +kernel
theorem dX10_needThing_15 : decode cX10_needThing 15 = .ok (.if_icmp .lt 13, 3) := by decide +kernel
theorem dX10_needThing_18 : decode cX10_needThing 18 = .ok (.new 181, 3) := by decide +kernel
theorem dX10_needThing_21 : decode cX10_needThing 21 = .ok (.dup, 1) := by decide +kernel
theorem dX10_needThing_22 : decode cX10_needThing 22 = .ok (.ldc 183, 2) := by decide +kernel
theorem dX10_needThing_24 : decode cX10_needThing 24 = .ok (.invokespecial 185, 3) := by decide +kernel
theorem dX10_needThing_27 : decode cX10_needThing 27 = .ok (.athrow, 1) := by decide +kernel
theorem dX10_needWalker_0 : decode cX10_needWalker 0 = .ok (.iload_n 1, 1) := by decide +kernel
theorem dX10_needWalker_1 : decode cX10_needWalker 1 = .ok (.ifCond .lt 17, 3) := by decide +kernel
theorem dX10_needWalker_4 : decode cX10_needWalker 4 = .ok (.iload_n 1, 1) := by decide +kernel
theorem dX10_needWalker_5 : decode cX10_needWalker 5 = .ok (.aload_n 0, 1) := by decide +kernel
theorem dX10_needWalker_6 : decode cX10_needWalker 6 = .ok (.getfield 57, 3) := by decide +kernel
theorem dX10_needWalker_9 : decode cX10_needWalker 9 = .ok (.getfield 113, 3) := by decide +kernel
theorem dX10_needWalker_12 : decode cX10_needWalker 12 = .ok (.getfield 186, 3) := by decide +kernel
theorem dX10_needWalker_15 : decode cX10_needWalker 15 = .ok (.if_icmp .lt 13, 3) := by decide +kernel
theorem dX10_needWalker_18 : decode cX10_needWalker 18 = .ok (.new 181, 3) := by decide +kernel
theorem dX10_needWalker_21 : decode cX10_needWalker 21 = .ok (.dup, 1) := by decide +kernel
theorem dX10_needWalker_22 : decode cX10_needWalker 22 = .ok (.ldc 189, 2) := by decide +kernel
theorem dX10_needWalker_24 : decode cX10_needWalker 24 = .ok (.invokespecial 185, 3) := by decide +kernel
theorem dX10_needWalker_27 : decode cX10_needWalker 27 = .ok (.athrow, 1) := by decide +kernel
theorem dX10_needColumn_0 : decode cX10_needColumn 0 = .ok (.iload_n 1, 1) := by decide +kernel
theorem dX10_needColumn_1 : decode cX10_needColumn 1 = .ok (.ifCond .lt 17, 3) := by decide +kernel
theorem dX10_needColumn_4 : decode cX10_needColumn 4 = .ok (.iload_n 1, 1) := by decide +kernel
theorem dX10_needColumn_5 : decode cX10_needColumn 5 = .ok (.aload_n 0, 1) := by decide +kernel
theorem dX10_needColumn_6 : decode cX10_needColumn 6 = .ok (.getfield 57, 3) := by decide +kernel
theorem dX10_needColumn_9 : decode cX10_needColumn 9 = .ok (.getfield 113, 3) := by decide +kernel
theorem dX10_needColumn_12 : decode cX10_needColumn 12 = .ok (.getfield 191, 3) := by decide +kernel
theorem dX10_needColumn_15 : decode cX10_needColumn 15 = .ok (.if_icmp .lt 13, 3) := by decide +kernel
theorem dX10_needColumn_18 : decode cX10_needColumn 18 = .ok (.new 181, 3) := by decide +kernel
theorem dX10_needColumn_21 : decode cX10_needColumn 21 = .ok (.dup, 1) := by decide +kernel
theorem dX10_needColumn_22 : decode cX10_needColumn 22 = .ok (.ldc 194, 2) := by decide +kernel
theorem dX10_needColumn_24 : decode cX10_needColumn 24 = .ok (.invokespecial 185, 3) := by decide +kernel
theorem dX10_needColumn_27 : decode cX10_needColumn 27 = .ok (.athrow, 1) := by decide +kernel
theorem dX10_needColumn_28 : decode cX10_needColumn 28 = .ok (.return_, 1) := by decide +kernel
theorem dX10_needPlace_0 : decode cX10_needPlace 0 = .ok (.aload_n 0, 1) := by decide +kernel
theorem dX10_needPlace_1 : decode cX10_needPlace 1 = .ok (.getfield 57, 3) := by decide +kernel
theorem dX10_needPlace_4 : decode cX10_needPlace 4 = .ok (.getfield 113, 3) := by decide +kernel
theorem dX10_needPlace_7 : decode cX10_needPlace 7 = .ok (.iload_n 1, 1) := by decide +kernel
theorem dX10_needPlace_8 : decode cX10_needPlace 8 = .ok (.iload_n 2, 1) := by decide +kernel
theorem dX10_needPlace_9 : decode cX10_needPlace 9 = .ok (.invokevirtual 196, 3) := by decide +kernel
theorem dX10_needPlace_12 : decode cX10_needPlace 12 = .ok (.ifCond .ne 13, 3) := by decide +kernel
theorem dX10_needPlace_15 : decode cX10_needPlace 15 = .ok (.new 181, 3) := by decide +kernel
theorem dX10_needPlace_18 : decode cX10_needPlace 18 = .ok (.dup, 1) := by decide +kernel
theorem dX10_needPlace_19 : decode cX10_needPlace 19 = .ok (.ldc 200, 2) := by decide +kernel
theorem dX10_needPlace_21 : decode cX10_needPlace 21 = .ok (.invokespecial 185, 3) := by decide +kernel
theorem dX10_needPlace_24 : decode cX10_needPlace 24 = .ok (.athrow, 1) := by decide +kernel
theorem dX10_needPlace_25 : decode cX10_needPlace 25 = .ok (.return_, 1) := by decide +kernel
theorem dX10_needWithin_0 : decode cX10_needWithin 0 = .ok (.iload_n 0, 1) := by decide +kernel
theorem dX10_needWithin_1 : decode cX10_needWithin 1 = .ok (.iload_n 1, 1) := by decide +kernel
theorem dX10_needWithin_2 : decode cX10_needWithin 2 = .ok (.if_icmp .lt 8, 3) := by decide +kernel
theorem dX10_needWithin_5 : decode cX10_needWithin 5 = .ok (.iload_n 0, 1) := by decide +kernel
theorem dX10_needWithin_6 : decode cX10_needWithin 6 = .ok (.iload_n 2, 1) := by decide +kernel
theorem dX10_needWithin_7 : decode cX10_needWithin 7 = .ok (.if_icmp .le 13, 3) := by decide +kernel
theorem dX10_needWithin_10 : decode cX10_needWithin 10 = .ok (.new 83, 3) := by decide +kernel
theorem dX10_needWithin_13 : decode cX10_needWithin 13 = .ok (.dup, 1) := by decide +kernel
theorem dX10_needWithin_14 : decode cX10_needWithin 14 = .ok (.ldc 202, 2) := by decide +kernel
theorem dX10_needWithin_16 : decode cX10_needWithin 16 = .ok (.invokespecial 87, 3) := by decide +kernel
theorem dX10_needWithin_19 : decode cX10_needWithin 19 = .ok (.athrow, 1) := by decide +kernel
theorem dX10_needWithin_20 : decode cX10_needWithin 20 = .ok (.return_, 1) := by decide +kernel
theorem dX10_letGo_0 : decode cX10_letGo 0 = .ok (.aload_n 0, 1) := by decide +kernel
theorem dX10_letGo_1 : decode cX10_letGo 1 = .ok (.getfield 57, 3) := by decide +kernel
theorem dX10_letGo_4 : decode cX10_letGo 4 = .ok (.iload_n 1, 1) := by decide +kernel
theorem dX10_letGo_5 : decode cX10_letGo 5 = .ok (.iload_n 2, 1) := by decide +kernel
theorem dX10_letGo_6 : decode cX10_letGo 6 = .ok (.iload_n 3, 1) := by decide +kernel
theorem dX10_letGo_7 : decode cX10_letGo 7 = .ok (.invokevirtual 204, 3) := by decide +kernel
theorem dX10_letGo_10 : decode cX10_letGo 10 = .ok (.istore 4, 2) := by decide +kernel
theorem dX10_letGo_12 : decode cX10_letGo 12 = .ok (.iload 4, 2) := by decide +kernel
theorem dX10_letGo_14 : decode cX10_letGo 14 = .ok (.ifCond .eq 7, 3) := by decide +kernel
theorem dX10_letGo_17 : decode cX10_letGo 17 = .ok (.iload 4, 2) := by decide +kernel
theorem dX10_letGo_19 : decode cX10_letGo 19 = .ok (.ineg, 1) := by decide +kernel
theorem dX10_letGo_20 : decode cX10_letGo 20 = .ok (.ireturn, 1) := by decide +kernel
theorem dX10_take_0 : decode cX10_take 0 = .ok (.aload_n 0, 1) := by decide +kernel
theorem dX10_take_1 : decode cX10_take 1 = .ok (.getfield 57, 3) := by decide +kernel
theorem dX10_take_4 : decode cX10_take 4 = .ok (.iload_n 1, 1) := by decide +kernel
theorem dX10_take_5 : decode cX10_take 5 = .ok (.invokevirtual 214, 3) := by decide +kernel
theorem dX10_take_8 : decode cX10_take 8 = .ok (.istore_n 2, 1) := by decide +kernel
theorem dX10_take_9 : decode cX10_take 9 = .ok (.iload_n 2, 1) := by decide +kernel
theorem dX10_take_10 : decode cX10_take 10 = .ok (.ifCond .eq 6, 3) := by decide +kernel
theorem dX10_take_13 : decode cX10_take 13 = .ok (.iload_n 2, 1) := by decide +kernel
theorem dX10_take_14 : decode cX10_take 14 = .ok (.ineg, 1) := by decide +kernel
theorem dX10_take_15 : decode cX10_take 15 = .ok (.ireturn, 1) := by decide +kernel
theorem dX10_quake_0 : decode cX10_quake 0 = .ok (.aload_n 0, 1) := by decide +kernel
theorem dX10_quake_1 : decode cX10_quake 1 = .ok (.getfield 64, 3) := by decide +kernel
theorem dX10_quake_4 : decode cX10_quake 4 = .ok (.aload_n 0, 1) := by decide +kernel
theorem dX10_quake_5 : decode cX10_quake 5 = .ok (.getfield 57, 3) := by decide +kernel
theorem dX10_quake_8 : decode cX10_quake 8 = .ok (.invokevirtual 208, 3) := by decide +kernel
theorem dX10_quake_11 : decode cX10_quake 11 = .ok (.aload_n 0, 1) := by decide +kernel
theorem dX10_quake_12 : decode cX10_quake 12 = .ok (.getfield 57, 3) := by decide +kernel
theorem dX10_quake_15 : decode cX10_quake 15 = .ok (.invokevirtual 220, 3) := by decide +kernel
theorem dX10_quake_18 : decode cX10_quake 18 = .ok (.ireturn, 1) := by decide +kernel
theorem dX10_hours_0 : decode cX10_hours 0 = .ok (.iload_n 1, 1) := by decide +kernel
theorem dX10_hours_1 : decode cX10_hours 1 = .ok (.iconst 1, 1) := by decide +kernel
theorem dX10_hours_2 : decode cX10_hours 2 = .ok (.bipush 99, 2) := by decide +kernel
theorem dX10_hours_4 : decode cX10_hours 4 = .ok (.invokestatic 170, 3) := by decide +kernel
theorem dX10_hours_7 : decode cX10_hours 7 = .ok (.aload_n 0, 1) := by decide +kernel
theorem dX10_hours_8 : decode cX10_hours 8 = .ok (.getfield 64, 3) := by decide +kernel
theorem dX10_hours_11 : decode cX10_hours 11 = .ok (.aload_n 0, 1) := by decide +kernel
theorem dX10_hours_12 : decode cX10_hours 12 = .ok (.getfield 57, 3) := by decide +kernel
theorem dX10_hours_15 : decode cX10_hours 15 = .ok (.invokevirtual 208, 3) := by decide +kernel
theorem dX10_hours_18 : decode cX10_hours 18 = .ok (.aload_n 0, 1) := by decide +kernel
theorem dX10_hours_19 : decode cX10_hours 19 = .ok (.getfield 57, 3) := by decide +kernel
theorem dX10_hours_22 : decode cX10_hours 22 = .ok (.aload_n 0, 1) := by decide +kernel
theorem dX10_hours_23 : decode cX10_hours 23 = .ok (.getfield 57, 3) := by decide +kernel
theorem dX10_hours_26 : decode cX10_hours 26 = .ok (.getfield 135, 3) := by decide +kernel
theorem dX10_hours_29 : decode cX10_hours 29 = .ok (.iload_n 1, 1) := by decide +kernel
theorem dX10_hours_30 : decode cX10_hours 30 = .ok (.iadd, 1) := by decide +kernel
theorem dX10_hours_31 : decode cX10_hours 31 = .ok (.invokevirtual 224, 3) := by decide +kernel
theorem dX10_hours_34 : decode cX10_hours 34 = .ok (.ireturn, 1) := by decide +kernel
theorem dX10_undo_0 : decode cX10_undo 0 = .ok (.iload_n 1, 1) := by decide +kernel
theorem dX10_undo_1 : decode cX10_undo 1 = .ok (.iconst 1, 1) := by decide +kernel
theorem dX10_undo_2 : decode cX10_undo 2 = .ok (.if_icmp .lt 14, 3) := by decide +kernel
theorem dX10_undo_5 : decode cX10_undo 5 = .ok (.iload_n 1, 1) := by decide +kernel
theorem dX10_undo_6 : decode cX10_undo 6 = .ok (.aload_n 0, 1) := by decide +kernel
theorem dX10_undo_7 : decode cX10_undo 7 = .ok (.getfield 64, 3) := by decide +kernel
theorem dX10_undo_10 : decode cX10_undo 10 = .ok (.getfield 227, 3) := by decide +kernel
theorem dX10_undo_13 : decode cX10_undo 13 = .ok (.if_icmp .le 13, 3) := by decide +kernel
theorem dX10_undo_16 : decode cX10_undo 16 = .ok (.new 83, 3) := by decide +kernel
theorem dX10_undo_19 : decode cX10_undo 19 = .ok (.dup, 1) := by decide +kernel
theorem dX10_undo_20 : decode cX10_undo 20 = .ok (.ldc 230, 2) := by decide +kernel
theorem dX10_undo_22 : decode cX10_undo 22 = .ok (.invokespecial 87, 3) := by decide +kernel
theorem dX10_undo_25 : decode cX10_undo 25 = .ok (.athrow, 1) := by decide +kernel
theorem dX10_judge_0 : decode cX10_judge 0 = .ok (.aload_n 0, 1) := by decide +kernel
theorem dX10_judge_1 : decode cX10_judge 1 = .ok (.iload_n 1, 1) := by decide +kernel
theorem dX10_judge_2 : decode cX10_judge 2 = .ok (.invokevirtual 236, 3) := by decide +kernel
theorem dX10_perform_0 : decode cX10_perform 0 = .ok (.aload_n 0, 1) := by decide +kernel
theorem dX10_perform_1 : decode cX10_perform 1 = .ok (.iload_n 1, 1) := by decide +kernel
theorem dX10_perform_2 : decode cX10_perform 2 = .ok (.invokevirtual 236, 3) := by decide +kernel
theorem dX10_season_0 : decode cX10_season 0 = .ok (.iload_n 2, 1) := by decide +kernel
theorem dX10_season_1 : decode cX10_season 1 = .ok (.iconst 1, 1) := by decide +kernel
theorem dX10_season_2 : decode cX10_season 2 = .ok (.bipush 30, 2) := by decide +kernel
theorem dX10_season_4 : decode cX10_season 4 = .ok (.invokestatic 170, 3) := by decide +kernel
theorem dX10_season_7 : decode cX10_season 7 = .ok (.aload_n 0, 1) := by decide +kernel
theorem dX10_season_8 : decode cX10_season 8 = .ok (.iload_n 1, 1) := by decide +kernel
theorem dX10_season_9 : decode cX10_season 9 = .ok (.putfield 262, 3) := by decide +kernel
theorem dX10_season_12 : decode cX10_season 12 = .ok (.iconst 0, 1) := by decide +kernel
theorem dX10_season_13 : decode cX10_season 13 = .ok (.istore_n 3, 1) := by decide +kernel
theorem dX10_season_14 : decode cX10_season 14 = .ok (.iconst 0, 1) := by decide +kernel
theorem dX10_season_15 : decode cX10_season 15 = .ok (.istore 4, 2) := by decide +kernel
theorem dX10_season_17 : decode cX10_season 17 = .ok (.iload 4, 2) := by decide +kernel
theorem dX10_season_19 : decode cX10_season 19 = .ok (.iload_n 2, 1) := by decide +kernel
theorem dX10_season_20 : decode cX10_season 20 = .ok (.if_icmp .ge 52, 3) := by decide +kernel
theorem dX10_season_23 : decode cX10_season 23 = .ok (.aload_n 0, 1) := by decide +kernel
theorem dX10_season_24 : decode cX10_season 24 = .ok (.invokevirtual 265, 3) := by decide +kernel
theorem dX10_season_27 : decode cX10_season 27 = .ok (.istore 5, 2) := by decide +kernel
theorem dX10_season_29 : decode cX10_season 29 = .ok (.aload_n 0, 1) := by decide +kernel
theorem dX10_season_30 : decode cX10_season 30 = .ok (.getfield 57, 3) := by decide +kernel
theorem dX10_season_33 : decode cX10_season 33 = .ok (.iload 5, 2) := by decide +kernel
theorem dX10_season_35 : decode cX10_season 35 = .ok (.i2l, 1) := by decide +kernel
theorem dX10_season_36 : decode cX10_season 36 = .ok (.invokestatic 248, 3) := by decide +kernel
theorem dX10_season_39 : decode cX10_season 39 = .ok (.ifCond .ne 27, 3) := by decide +kernel
theorem dX10_season_42 : decode cX10_season 42 = .ok (.aload_n 0, 1) := by decide +kernel
theorem dX10_season_43 : decode cX10_season 43 = .ok (.getfield 64, 3) := by decide +kernel
theorem dX10_season_46 : decode cX10_season 46 = .ok (.aload_n 0, 1) := by decide +kernel
theorem dX10_season_47 : decode cX10_season 47 = .ok (.getfield 57, 3) := by decide +kernel
theorem dX10_season_50 : decode cX10_season 50 = .ok (.invokevirtual 208, 3) := by decide +kernel
theorem dX10_season_53 : decode cX10_season 53 = .ok (.aload_n 0, 1) := by decide +kernel
theorem dX10_season_54 : decode cX10_season 54 = .ok (.getfield 57, 3) := by decide +kernel
theorem dX10_season_57 : decode cX10_season 57 = .ok (.iload 5, 2) := by decide +kernel
theorem dX10_season_59 : decode cX10_season 59 = .ok (.i2l, 1) := by decide +kernel
theorem dX10_season_60 : decode cX10_season 60 = .ok (.invokestatic 252, 3) := by decide +kernel
theorem dX10_season_63 : decode cX10_season 63 = .ok (.iinc 3 1, 3) := by decide +kernel
theorem dX10_season_66 : decode cX10_season 66 = .ok (.iinc 4 1, 3) := by decide +kernel
theorem dX10_season_69 : decode cX10_season 69 = .ok (.goto (-52), 3) := by decide +kernel
theorem dX10_season_72 : decode cX10_season 72 = .ok (.iload_n 3, 1) := by decide +kernel
theorem dX10_season_73 : decode cX10_season 73 = .ok (.ireturn, 1) := by decide +kernel
theorem dX10_drawDeed_0 : decode cX10_drawDeed 0 = .ok (.aload_n 0, 1) := by decide +kernel
theorem dX10_drawDeed_1 : decode cX10_drawDeed 1 = .ok (.getfield 57, 3) := by decide +kernel
theorem dX10_drawDeed_4 : decode cX10_drawDeed 4 = .ok (.getfield 113, 3) := by decide +kernel
theorem dX10_drawDeed_7 : decode cX10_drawDeed 7 = .ok (.astore_n 1, 1) := by decide +kernel
theorem dX10_drawDeed_8 : decode cX10_drawDeed 8 = .ok (.aload_n 0, 1) := by decide +kernel
theorem dX10_drawDeed_9 : decode cX10_drawDeed 9 = .ok (.iconst 4, 1) := by decide +kernel
theorem dX10_drawDeed_10 : decode cX10_drawDeed 10 = .ok (.invokevirtual 268, 3) := by decide +kernel
theorem dX10_drawDeed_13 : decode cX10_drawDeed 13 = .ok (.istore_n 2, 1) := by decide +kernel
theorem dX10_drawDeed_14 : decode cX10_drawDeed 14 = .ok (.iload_n 2, 1) := by decide +kernel
theorem dX10_drawDeed_15 : decode cX10_drawDeed 15 = .ok (.iconst 2, 1) := by decide +kernel
theorem dX10_drawDeed_16 : decode cX10_drawDeed 16 = .ok (.if_icmp .ge 5, 3) := by decide +kernel
theorem dX10_drawDeed_19 : decode cX10_drawDeed 19 = .ok (.iconst (-1), 1) := by decide +kernel
theorem dX10_drawDeed_20 : decode cX10_drawDeed 20 = .ok (.ireturn, 1) := by decide +kernel
theorem dX10_drawDeed_21 : decode cX10_drawDeed 21 = .ok (.aload_n 1, 1) := by decide +kernel
theorem dX10_drawDeed_22 : decode cX10_drawDeed 22 = .ok (.getfield 178, 3) := by decide +kernel
theorem dX10_drawDeed_25 : decode cX10_drawDeed 25 = .ok (.ifCond .ne 7, 3) := by decide +kernel
theorem dX10_drawDeed_28 : decode cX10_drawDeed 28 = .ok (.sipush 800, 3) := by decide +kernel
theorem dX10_drawDeed_31 : decode cX10_drawDeed 31 = .ok (.ireturn, 1) := by decide +kernel
theorem dX10_drawDeed_32 : decode cX10_drawDeed 32 = .ok (.aload_n 0, 1) := by decide +kernel
theorem dX10_drawDeed_33 : decode cX10_drawDeed 33 = .ok (.aload_n 1, 1) := by decide +kernel
theorem dX10_drawDeed_34 : decode cX10_drawDeed 34 = .ok (.getfield 178, 3) := by decide +kernel
theorem dX10_drawDeed_37 : decode cX10_drawDeed 37 = .ok (.invokevirtual 268, 3) := by decide +kernel
theorem dX10_drawDeed_40 : decode cX10_drawDeed 40 = .ok (.istore_n 3, 1) := by decide +kernel
theorem dX10_drawDeed_41 : decode cX10_drawDeed 41 = .ok (.iload_n 2, 1) := by decide +kernel
theorem dX10_drawDeed_42 : decode cX10_drawDeed 42 = .ok (.iconst 3, 1) := by decide +kernel
theorem dX10_drawDeed_43 : decode cX10_drawDeed 43 = .ok (.if_icmp .ne 9, 3) := by decide +kernel
theorem dX10_drawDeed_46 : decode cX10_drawDeed 46 = .ok (.sipush 1000, 3) := by decide +kernel
theorem dX10_drawDeed_49 : decode cX10_drawDeed 49 = .ok (.iload_n 3, 1) := by decide +kernel
theorem dX10_drawDeed_50 : decode cX10_drawDeed 50 = .ok (.iadd, 1) := by decide +kernel
theorem dX10_drawDeed_51 : decode cX10_drawDeed 51 = .ok (.ireturn, 1) := by decide +kernel
theorem dX10_drawDeed_52 : decode cX10_drawDeed 52 = .ok (.aload_n 0, 1) := by decide +kernel
theorem dX10_drawDeed_53 : decode cX10_drawDeed 53 = .ok (.aload_n 1, 1) := by decide +kernel
theorem dX10_drawDeed_54 : decode cX10_drawDeed 54 = .ok (.getfield 191, 3) := by decide +kernel
theorem dX10_drawDeed_57 : decode cX10_drawDeed 57 = .ok (.invokevirtual 268, 3) := by decide +kernel
theorem dX10_drawDeed_60 : decode cX10_drawDeed 60 = .ok (.istore 4, 2) := by decide +kernel
theorem dX10_drawDeed_62 : decode cX10_drawDeed 62 = .ok (.bipush 100, 2) := by decide +kernel
theorem dX10_drawDeed_64 : decode cX10_drawDeed 64 = .ok (.iload_n 3, 1) := by decide +kernel
theorem dX10_drawDeed_65 : decode cX10_drawDeed 65 = .ok (.imul, 1) := by decide +kernel
theorem dX10_drawDeed_66 : decode cX10_drawDeed 66 = .ok (.bipush 10, 2) := by decide +kernel
theorem dX10_drawDeed_68 : decode cX10_drawDeed 68 = .ok (.iload 4, 2) := by decide +kernel
theorem dX10_drawDeed_70 : decode cX10_drawDeed 70 = .ok (.imul, 1) := by decide +kernel
theorem dX10_drawDeed_71 : decode cX10_drawDeed 71 = .ok (.iadd, 1) := by decide +kernel
theorem dX10_drawDeed_72 : decode cX10_drawDeed 72 = .ok (.aload_n 0, 1) := by decide +kernel
theorem dX10_drawDeed_73 : decode cX10_drawDeed 73 = .ok (.aload_n 1, 1) := by decide +kernel
theorem dX10_drawDeed_74 : decode cX10_drawDeed 74 = .ok (.getfield 271, 3) := by decide +kernel
theorem dX10_drawDeed_77 : decode cX10_drawDeed 77 = .ok (.invokevirtual 268, 3) := by decide +kernel
theorem dX10_drawDeed_80 : decode cX10_drawDeed 80 = .ok (.iadd, 1) := by decide +kernel
theorem dX10_drawDeed_81 : decode cX10_drawDeed 81 = .ok (.ireturn, 1) := by decide +kernel
theorem dX10_draw_0 : decode cX10_draw 0 = .ok (.aload_n 0, 1) := by decide +kernel
theorem dX10_draw_1 : decode cX10_draw 1 = .ok (.ldc_w 274, 3) := by decide +kernel
theorem dX10_draw_4 : decode cX10_draw 4 = .ok (.aload_n 0, 1) := by decide +kernel
theorem dX10_draw_5 : decode cX10_draw 5 = .ok (.getfield 262, 3) := by decide +kernel
theorem dX10_draw_8 : decode cX10_draw 8 = .ok (.imul, 1) := by decide +kernel
theorem dX10_draw_9 : decode cX10_draw 9 = .ok (.sipush 12345, 3) := by decide +kernel
theorem dX10_draw_12 : decode cX10_draw 12 = .ok (.iadd, 1) := by decide +kernel
theorem dX10_draw_13 : decode cX10_draw 13 = .ok (.putfield 262, 3) := by decide +kernel
theorem dX10_draw_16 : decode cX10_draw 16 = .ok (.iload_n 1, 1) := by decide +kernel
theorem dX10_draw_17 : decode cX10_draw 17 = .ok (.ifCond .le 15, 3) := by decide +kernel
theorem dX10_draw_20 : decode cX10_draw 20 = .ok (.aload_n 0, 1) := by decide +kernel
theorem dX10_draw_21 : decode cX10_draw 21 = .ok (.getfield 262, 3) := by decide +kernel
theorem dX10_draw_24 : decode cX10_draw 24 = .ok (.bipush 16, 2) := by decide +kernel
theorem dX10_draw_26 : decode cX10_draw 26 = .ok (.iushr, 1) := by decide +kernel
theorem dX10_draw_27 : decode cX10_draw 27 = .ok (.iload_n 1, 1) := by decide +kernel
theorem dX10_draw_28 : decode cX10_draw 28 = .ok (.irem, 1) := by decide +kernel
theorem dX10_draw_29 : decode cX10_draw 29 = .ok (.goto 4, 3) := by decide +kernel
theorem dX10_draw_32 : decode cX10_draw 32 = .ok (.iconst 0, 1) := by decide +kernel
theorem dX10_draw_33 : decode cX10_draw 33 = .ok (.ireturn, 1) := by decide +kernel
theorem dX10_whyNot_0 : decode cX10_whyNot 0 = .ok (.lload_n 1, 1) := by decide +kernel
theorem dX10_whyNot_1 : decode cX10_whyNot 1 = .ok (.ldc2_w 275, 3) := by decide +kernel
theorem dX10_whyNot_4 : decode cX10_whyNot 4 = .ok (.lcmp, 1) := by decide +kernel
theorem dX10_whyNot_5 : decode cX10_whyNot 5 = .ok (.ifCond .eq 11, 3) := by decide +kernel
theorem dX10_whyNot_8 : decode cX10_whyNot 8 = .ok (.lload_n 1, 1) := by decide +kernel
theorem dX10_whyNot_9 : decode cX10_whyNot 9 = .ok (.ldc2_w 277, 3) := by decide +kernel
theorem dX10_whyNot_12 : decode cX10_whyNot 12 = .ok (.lcmp, 1) := by decide +kernel
theorem dX10_whyNot_13 : decode cX10_whyNot 13 = .ok (.ifCond .ne 5, 3) := by decide +kernel
theorem dX10_whyNot_16 : decode cX10_whyNot 16 = .ok (.iconst 0, 1) := by decide +kernel
theorem dX10_whyNot_17 : decode cX10_whyNot 17 = .ok (.ireturn, 1) := by decide +kernel
theorem dX10_whyNot_18 : decode cX10_whyNot 18 = .ok (.lload_n 1, 1) := by decide +kernel
theorem dX10_whyNot_19 : decode cX10_whyNot 19 = .ok (.lconst 0, 1) := by decide +kernel
theorem dX10_whyNot_20 : decode cX10_whyNot 20 = .ok (.lcmp, 1) := by decide +kernel
theorem dX10_whyNot_21 : decode cX10_whyNot 21 = .ok (.ifCond .lt 34, 3) := by decide +kernel
theorem dX10_whyNot_24 : decode cX10_whyNot 24 = .ok (.lload_n 1, 1) := by decide +kernel
theorem dX10_whyNot_25 : decode cX10_whyNot 25 = .ok (.ldc2_w 279, 3) := by decide +kernel
theorem dX10_whyNot_28 : decode cX10_whyNot 28 = .ok (.lcmp, 1) := by decide +kernel
theorem dX10_whyNot_29 : decode cX10_whyNot 29 = .ok (.ifCond .ge 26, 3) := by decide +kernel
theorem dX10_whyNot_32 : decode cX10_whyNot 32 = .ok (.lload_n 1, 1) := by decide +kernel
theorem dX10_whyNot_33 : decode cX10_whyNot 33 = .ok (.l2i, 1) := by decide +kernel
theorem dX10_whyNot_34 : decode cX10_whyNot 34 = .ok (.istore_n 3, 1) := by decide +kernel
theorem dX10_whyNot_35 : decode cX10_whyNot 35 = .ok (.aload_n 0, 1) := by decide +kernel
theorem dX10_whyNot_36 : decode cX10_whyNot 36 = .ok (.iload_n 3, 1) := by decide +kernel
theorem dX10_whyNot_37 : decode cX10_whyNot 37 = .ok (.bipush 100, 2) := by decide +kernel
theorem dX10_whyNot_39 : decode cX10_whyNot 39 = .ok (.idiv, 1) := by decide +kernel
theorem dX10_whyNot_40 : decode cX10_whyNot 40 = .ok (.iload_n 3, 1) := by decide +kernel
theorem dX10_whyNot_41 : decode cX10_whyNot 41 = .ok (.bipush 10, 2) := by decide +kernel
theorem dX10_whyNot_43 : decode cX10_whyNot 43 = .ok (.idiv, 1) := by decide +kernel
theorem dX10_whyNot_44 : decode cX10_whyNot 44 = .ok (.bipush 10, 2) := by decide +kernel
theorem dX10_whyNot_46 : decode cX10_whyNot 46 = .ok (.irem, 1) := by decide +kernel
theorem dX10_whyNot_47 : decode cX10_whyNot 47 = .ok (.iload_n 3, 1) := by decide +kernel
theorem dX10_whyNot_48 : decode cX10_whyNot 48 = .ok (.bipush 10, 2) := by decide +kernel
theorem dX10_whyNot_50 : decode cX10_whyNot 50 = .ok (.irem, 1) := by decide +kernel
theorem dX10_whyNot_51 : decode cX10_whyNot 51 = .ok (.invokevirtual 204, 3) := by decide +kernel
theorem dX10_whyNot_54 : decode cX10_whyNot 54 = .ok (.ireturn, 1) := by decide +kernel
theorem dX10_whyNot_55 : decode cX10_whyNot 55 = .ok (.lload_n 1, 1) := by decide +kernel
theorem dX10_whyNot_56 : decode cX10_whyNot 56 = .ok (.ldc2_w 281, 3) := by decide +kernel
theorem dX10_whyNot_59 : decode cX10_whyNot 59 = .ok (.lcmp, 1) := by decide +kernel
theorem dX10_whyNot_60 : decode cX10_whyNot 60 = .ok (.ifCond .lt 22, 3) := by decide +kernel
theorem dX10_whyNot_63 : decode cX10_whyNot 63 = .ok (.lload_n 1, 1) := by decide +kernel
theorem dX10_whyNot_64 : decode cX10_whyNot 64 = .ok (.ldc2_w 283, 3) := by decide +kernel
theorem dX10_whyNot_67 : decode cX10_whyNot 67 = .ok (.lcmp, 1) := by decide +kernel
theorem dX10_whyNot_68 : decode cX10_whyNot 68 = .ok (.ifCond .ge 14, 3) := by decide +kernel
theorem dX10_whyNot_71 : decode cX10_whyNot 71 = .ok (.aload_n 0, 1) := by decide +kernel
theorem dX10_whyNot_72 : decode cX10_whyNot 72 = .ok (.lload_n 1, 1) := by decide +kernel
theorem dX10_whyNot_73 : decode cX10_whyNot 73 = .ok (.l2i, 1) := by decide +kernel
theorem dX10_whyNot_74 : decode cX10_whyNot 74 = .ok (.sipush 1000, 3) := by decide +kernel
theorem dX10_whyNot_77 : decode cX10_whyNot 77 = .ok (.isub, 1) := by decide +kernel
theorem dX10_whyNot_78 : decode cX10_whyNot 78 = .ok (.invokevirtual 214, 3) := by decide +kernel
theorem dX10_whyNot_81 : decode cX10_whyNot 81 = .ok (.ireturn, 1) := by decide +kernel
theorem dX10_whyNot_82 : decode cX10_whyNot 82 = .ok (.iconst 1, 1) := by decide +kernel
theorem dX10_whyNot_83 : decode cX10_whyNot 83 = .ok (.ireturn, 1) := by decide +kernel
theorem dX10_act_0 : decode cX10_act 0 = .ok (.lload_n 1, 1) := by decide +kernel
theorem dX10_act_1 : decode cX10_act 1 = .ok (.l2i, 1) := by decide +kernel
theorem dX10_act_2 : decode cX10_act 2 = .ok (.istore_n 3, 1) := by decide +kernel
theorem dX10_act_3 : decode cX10_act 3 = .ok (.iload_n 3, 1) := by decide +kernel
theorem dX10_act_4 : decode cX10_act 4 = .ok (.iconst (-1), 1) := by decide +kernel
theorem dX10_act_5 : decode cX10_act 5 = .ok (.if_icmp .ne 27, 3) := by decide +kernel
theorem dX10_act_8 : decode cX10_act 8 = .ok (.aload_n 0, 1) := by decide +kernel
theorem dX10_act_9 : decode cX10_act 9 = .ok (.getfield 135, 3) := by decide +kernel
theorem dX10_act_12 : decode cX10_act 12 = .ok (.iconst 1, 1) := by decide +kernel
theorem dX10_act_13 : decode cX10_act 13 = .ok (.iadd, 1) := by decide +kernel
theorem dX10_act_14 : decode cX10_act 14 = .ok (.istore 4, 2) := by decide +kernel
theorem dX10_act_16 : decode cX10_act 16 = .ok (.aload_n 0, 1) := by decide +kernel
theorem dX10_act_17 : decode cX10_act 17 = .ok (.iload 4, 2) := by decide +kernel
theorem dX10_act_19 : decode cX10_act 19 = .ok (.invokevirtual 285, 3) := by decide +kernel
theorem dX10_act_22 : decode cX10_act 22 = .ok (.pop, 1) := by decide +kernel
theorem dX10_act_23 : decode cX10_act 23 = .ok (.aload_n 0, 1) := by decide +kernel
theorem dX10_act_24 : decode cX10_act 24 = .ok (.iload 4, 2) := by decide +kernel
theorem dX10_act_26 : decode cX10_act 26 = .ok (.putfield 135, 3) := by decide +kernel
theorem dX10_act_29 : decode cX10_act 29 = .ok (.goto 57, 3) := by decide +kernel
theorem dX10_act_32 : decode cX10_act 32 = .ok (.iload_n 3, 1) := by decide +kernel
theorem dX10_act_33 : decode cX10_act 33 = .ok (.sipush 2000, 3) := by decide +kernel
theorem dX10_act_36 : decode cX10_act 36 = .ok (.if_icmp .ne 11, 3) := by decide +kernel
theorem dX10_act_39 : decode cX10_act 39 = .ok (.aload_n 0, 1) := by decide +kernel
theorem dX10_act_40 : decode cX10_act 40 = .ok (.invokevirtual 220, 3) := by decide +kernel
theorem dX10_act_43 : decode cX10_act 43 = .ok (.pop, 1) := by decide +kernel
theorem dX10_act_44 : decode cX10_act 44 = .ok (.goto 42, 3) := by decide +kernel
theorem dX10_act_47 : decode cX10_act 47 = .ok (.iload_n 3, 1) := by decide +kernel
theorem dX10_act_48 : decode cX10_act 48 = .ok (.sipush 1000, 3) := by decide +kernel
theorem dX10_act_51 : decode cX10_act 51 = .ok (.if_icmp .lt 15, 3) := by decide +kernel
theorem dX10_act_54 : decode cX10_act 54 = .ok (.aload_n 0, 1) := by decide +kernel
theorem dX10_act_55 : decode cX10_act 55 = .ok (.iload_n 3, 1) := by decide +kernel
theorem dX10_act_56 : decode cX10_act 56 = .ok (.sipush 1000, 3) := by decide +kernel
theorem dX10_act_59 : decode cX10_act 59 = .ok (.isub, 1) := by decide +kernel
theorem dX10_act_60 : decode cX10_act 60 = .ok (.invokevirtual 217, 3) := by decide +kernel
theorem dX10_act_63 : decode cX10_act 63 = .ok (.goto 23, 3) := by decide +kernel
theorem dX10_act_66 : decode cX10_act 66 = .ok (.aload_n 0, 1) := by decide +kernel
theorem dX10_act_67 : decode cX10_act 67 = .ok (.iload_n 3, 1) := by decide +kernel
theorem dX10_act_68 : decode cX10_act 68 = .ok (.bipush 100, 2) := by decide +kernel
theorem dX10_act_70 : decode cX10_act 70 = .ok (.idiv, 1) := by decide +kernel
theorem dX10_act_71 : decode cX10_act 71 = .ok (.iload_n 3, 1) := by decide +kernel
theorem dX10_act_72 : decode cX10_act 72 = .ok (.bipush 10, 2) := by decide +kernel
theorem dX10_act_74 : decode cX10_act 74 = .ok (.idiv, 1) := by decide +kernel
theorem dX10_act_75 : decode cX10_act 75 = .ok (.bipush 10, 2) := by decide +kernel
theorem dX10_act_77 : decode cX10_act 77 = .ok (.irem, 1) := by decide +kernel
theorem dX10_act_78 : decode cX10_act 78 = .ok (.iload_n 3, 1) := by decide +kernel
theorem dX10_act_79 : decode cX10_act 79 = .ok (.bipush 10, 2) := by decide +kernel
theorem dX10_act_81 : decode cX10_act 81 = .ok (.irem, 1) := by decide +kernel
theorem dX10_act_82 : decode cX10_act 82 = .ok (.invokevirtual 211, 3) := by decide +kernel
theorem dX10_act_85 : decode cX10_act 85 = .ok (.pop, 1) := by decide +kernel
theorem dX10_act_86 : decode cX10_act 86 = .ok (.return_, 1) := by decide +kernel
theorem dX10_falls_0 : decode cX10_falls 0 = .ok (.aload_n 0, 1) := by decide +kernel
theorem dX10_falls_1 : decode cX10_falls 1 = .ok (.iload_n 1, 1) := by decide +kernel
theorem dX10_falls_2 : decode cX10_falls 2 = .ok (.invokevirtual 120, 3) := by decide +kernel
theorem dX10_lands_0 : decode cX10_lands 0 = .ok (.aload_n 0, 1) := by decide +kernel
theorem dX10_lands_1 : decode cX10_lands 1 = .ok (.iload_n 1, 1) := by decide +kernel
theorem dX10_lands_2 : decode cX10_lands 2 = .ok (.invokevirtual 120, 3) := by decide +kernel
theorem dX10_fallIn_0 : decode cX10_fallIn 0 = .ok (.iload_n 1, 1) := by decide +kernel
theorem dX10_fallIn_1 : decode cX10_fallIn 1 = .ok (.iconst 1, 1) := by decide +kernel
theorem dX10_fallIn_2 : decode cX10_fallIn 2 = .ok (.sipush 999, 3) := by decide +kernel
theorem dX10_fallIn_5 : decode cX10_fallIn 5 = .ok (.invokestatic 170, 3) := by decide +kernel
theorem dX10_fallIn_8 : decode cX10_fallIn 8 = .ok (.aload_n 0, 1) := by decide +kernel
theorem dX10_fallIn_9 : decode cX10_fallIn 9 = .ok (.getfield 71, 3) := by decide +kernel
theorem dX10_fallIn_12 : decode cX10_fallIn 12 = .ok (.aload_n 0, 1) := by decide +kernel
theorem dX10_fallIn_13 : decode cX10_fallIn 13 = .ok (.getfield 57, 3) := by decide +kernel
theorem dX10_fallIn_16 : decode cX10_fallIn 16 = .ok (.invokevirtual 289, 3) := by decide +kernel
theorem dX10_fallIn_19 : decode cX10_fallIn 19 = .ok (.iconst 0, 1) := by decide +kernel
theorem dX10_fallIn_20 : decode cX10_fallIn 20 = .ok (.istore_n 2, 1) := by decide +kernel
theorem dX10_fallIn_21 : decode cX10_fallIn 21 = .ok (.iconst 0, 1) := by decide +kernel
theorem dX10_fallIn_22 : decode cX10_fallIn 22 = .ok (.istore_n 3, 1) := by decide +kernel
theorem dX10_fallIn_23 : decode cX10_fallIn 23 = .ok (.iload_n 3, 1) := by decide +kernel
theorem dX10_fallIn_24 : decode cX10_fallIn 24 = .ok (.aload_n 0, 1) := by decide +kernel
theorem dX10_fallIn_25 : decode cX10_fallIn 25 = .ok (.getfield 71, 3) := by decide +kernel
theorem dX10_fallIn_28 : decode cX10_fallIn 28 = .ok (.getfield 295, 3) := by decide +kernel
theorem dX10_fallIn_31 : decode cX10_fallIn 31 = .ok (.if_icmp .ge 34, 3) := by decide +kernel
theorem dX10_fallIn_65 : decode cX10_fallIn 65 = .ok (.iload_n 2, 1) := by decide +kernel
theorem dX10_fallIn_66 : decode cX10_fallIn 66 = .ok (.ireturn, 1) := by decide +kernel
theorem dX10_next_0 : decode cX10_next 0 = .ok (.aload_n 0, 1) := by decide +kernel
theorem dX10_next_1 : decode cX10_next 1 = .ok (.getfield 71, 3) := by decide +kernel
theorem dX10_next_4 : decode cX10_next 4 = .ok (.aload_n 0, 1) := by decide +kernel
theorem dX10_next_5 : decode cX10_next 5 = .ok (.getfield 57, 3) := by decide +kernel
theorem dX10_next_8 : decode cX10_next 8 = .ok (.invokevirtual 289, 3) := by decide +kernel
theorem dX10_next_11 : decode cX10_next 11 = .ok (.aload_n 0, 1) := by decide +kernel
theorem dX10_next_12 : decode cX10_next 12 = .ok (.getfield 71, 3) := by decide +kernel
theorem dX10_next_15 : decode cX10_next 15 = .ok (.getfield 295, 3) := by decide +kernel
theorem dX10_next_18 : decode cX10_next 18 = .ok (.ifCond .le 15, 3) := by decide +kernel
theorem dX10_next_33 : decode cX10_next 33 = .ok (.iconst (-1), 1) := by decide +kernel
theorem dX10_next_34 : decode cX10_next 34 = .ok (.ireturn, 1) := by decide +kernel
theorem dX10_busiest_0 : decode cX10_busiest 0 = .ok (.aload_n 0, 1) := by decide +kernel
theorem dX10_busiest_1 : decode cX10_busiest 1 = .ok (.getfield 71, 3) := by decide +kernel
theorem dX10_busiest_4 : decode cX10_busiest 4 = .ok (.aload_n 0, 1) := by decide +kernel
theorem dX10_busiest_5 : decode cX10_busiest 5 = .ok (.getfield 57, 3) := by decide +kernel
theorem dX10_busiest_8 : decode cX10_busiest 8 = .ok (.invokevirtual 289, 3) := by decide +kernel
theorem dX10_busiest_11 : decode cX10_busiest 11 = .ok (.iconst 0, 1) := by decide +kernel
theorem dX10_busiest_12 : decode cX10_busiest 12 = .ok (.istore_n 1, 1) := by decide +kernel
theorem dX10_busiest_13 : decode cX10_busiest 13 = .ok (.iconst (-1), 1) := by decide +kernel
theorem dX10_busiest_14 : decode cX10_busiest 14 = .ok (.istore_n 2, 1) := by decide +kernel
theorem dX10_busiest_15 : decode cX10_busiest 15 = .ok (.iconst 0, 1) := by decide +kernel
theorem dX10_busiest_16 : decode cX10_busiest 16 = .ok (.istore_n 3, 1) := by decide +kernel
theorem dX10_busiest_17 : decode cX10_busiest 17 = .ok (.iload_n 3, 1) := by decide +kernel
theorem dX10_busiest_18 : decode cX10_busiest 18 = .ok (.aload_n 0, 1) := by decide +kernel
theorem dX10_busiest_19 : decode cX10_busiest 19 = .ok (.getfield 71, 3) := by decide +kernel
theorem dX10_busiest_22 : decode cX10_busiest 22 = .ok (.getfield 295, 3) := by decide +kernel
theorem dX10_busiest_25 : decode cX10_busiest 25 = .ok (.if_icmp .ge 42, 3) := by decide +kernel
theorem dX10_busiest_67 : decode cX10_busiest 67 = .ok (.iload_n 2, 1) := by decide +kernel
theorem dX10_busiest_68 : decode cX10_busiest 68 = .ok (.ireturn, 1) := by decide +kernel
theorem dX10_frees_0 : decode cX10_frees 0 = .ok (.aload_n 0, 1) := by decide +kernel
theorem dX10_frees_1 : decode cX10_frees 1 = .ok (.iload_n 1, 1) := by decide +kernel
theorem dX10_frees_2 : decode cX10_frees 2 = .ok (.invokevirtual 120, 3) := by decide +kernel
theorem dX10_heightIn_0 : decode cX10_heightIn 0 = .ok (.aload_n 0, 1) := by decide +kernel
theorem dX10_heightIn_1 : decode cX10_heightIn 1 = .ok (.iload_n 1, 1) := by decide +kernel
theorem dX10_heightIn_2 : decode cX10_heightIn 2 = .ok (.invokevirtual 156, 3) := by decide +kernel
theorem dX10_heightIn_5 : decode cX10_heightIn 5 = .ok (.iload_n 2, 1) := by decide +kernel
theorem dX10_heightIn_6 : decode cX10_heightIn 6 = .ok (.iconst 0, 1) := by decide +kernel
theorem dX10_heightIn_7 : decode cX10_heightIn 7 = .ok (.sipush 999, 3) := by decide +kernel
theorem dX10_heightIn_10 : decode cX10_heightIn 10 = .ok (.invokestatic 170, 3) := by decide +kernel
theorem dX10_heightIn_13 : decode cX10_heightIn 13 = .ok (.aload_n 0, 1) := by decide +kernel
theorem dX10_heightIn_14 : decode cX10_heightIn 14 = .ok (.getfield 71, 3) := by decide +kernel
theorem dX10_heightIn_17 : decode cX10_heightIn 17 = .ok (.getfield 240, 3) := by decide +kernel
theorem dX10_heightIn_20 : decode cX10_heightIn 20 = .ok (.astore_n 3, 1) := by decide +kernel
theorem dX10_heightIn_21 : decode cX10_heightIn 21 = .ok (.aload_n 3, 1) := by decide +kernel
theorem dX10_heightIn_22 : decode cX10_heightIn 22 = .ok (.aload_n 0, 1) := by decide +kernel
theorem dX10_heightIn_23 : decode cX10_heightIn 23 = .ok (.getfield 57, 3) := by decide +kernel
theorem dX10_heightIn_26 : decode cX10_heightIn 26 = .ok (.invokevirtual 106, 3) := by decide +kernel
theorem dX10_heightIn_29 : decode cX10_heightIn 29 = .ok (.aload_n 3, 1) := by decide +kernel
theorem dX10_heightIn_30 : decode cX10_heightIn 30 = .ok (.aload_n 0, 1) := by decide +kernel
theorem dX10_heightIn_31 : decode cX10_heightIn 31 = .ok (.getfield 57, 3) := by decide +kernel
theorem dX10_heightIn_34 : decode cX10_heightIn 34 = .ok (.getfield 135, 3) := by decide +kernel
theorem dX10_heightIn_37 : decode cX10_heightIn 37 = .ok (.iload_n 2, 1) := by decide +kernel
theorem dX10_heightIn_38 : decode cX10_heightIn 38 = .ok (.iadd, 1) := by decide +kernel
theorem dX10_heightIn_39 : decode cX10_heightIn 39 = .ok (.invokevirtual 224, 3) := by decide +kernel
theorem dX10_heightIn_42 : decode cX10_heightIn 42 = .ok (.pop, 1) := by decide +kernel
theorem dX10_heightIn_43 : decode cX10_heightIn 43 = .ok (.aload_n 3, 1) := by decide +kernel
theorem dX10_heightIn_44 : decode cX10_heightIn 44 = .ok (.iload_n 1, 1) := by decide +kernel
theorem dX10_heightIn_45 : decode cX10_heightIn 45 = .ok (.invokevirtual 159, 3) := by decide +kernel
theorem dX10_heightIn_48 : decode cX10_heightIn 48 = .ok (.ireturn, 1) := by decide +kernel
theorem dX10_hurtIn_0 : decode cX10_hurtIn 0 = .ok (.aload_n 0, 1) := by decide +kernel
theorem dX10_hurtIn_1 : decode cX10_hurtIn 1 = .ok (.iload_n 1, 1) := by decide +kernel
theorem dX10_hurtIn_2 : decode cX10_hurtIn 2 = .ok (.invokevirtual 143, 3) := by decide +kernel
theorem dX10_hurts_0 : decode cX10_hurts 0 = .ok (.aload_n 0, 1) := by decide +kernel
theorem dX10_hurts_1 : decode cX10_hurts 1 = .ok (.iload_n 1, 1) := by decide +kernel
theorem dX10_hurts_2 : decode cX10_hurts 2 = .ok (.invokevirtual 143, 3) := by decide +kernel
theorem dX10_spares_0 : decode cX10_spares 0 = .ok (.aload_n 0, 1) := by decide +kernel
theorem dX10_spares_1 : decode cX10_spares 1 = .ok (.iload_n 1, 1) := by decide +kernel
theorem dX10_spares_2 : decode cX10_spares 2 = .ok (.invokevirtual 143, 3) := by decide +kernel
theorem dX10_fallsBy_0 : decode cX10_fallsBy 0 = .ok (.aload_n 0, 1) := by decide +kernel
theorem dX10_fallsBy_1 : decode cX10_fallsBy 1 = .ok (.iload_n 1, 1) := by decide +kernel
theorem dX10_fallsBy_2 : decode cX10_fallsBy 2 = .ok (.iload_n 2, 1) := by decide +kernel
theorem dX10_fallsBy_3 : decode cX10_fallsBy 3 = .ok (.iload_n 3, 1) := by decide +kernel
theorem dX10_fallsBy_4 : decode cX10_fallsBy 4 = .ok (.invokevirtual 321, 3) := by decide +kernel
theorem dX10_waitFor_0 : decode cX10_waitFor 0 = .ok (.aload_n 0, 1) := by decide +kernel
theorem dX10_waitFor_1 : decode cX10_waitFor 1 = .ok (.iload_n 1, 1) := by decide +kernel
theorem dX10_waitFor_2 : decode cX10_waitFor 2 = .ok (.iload_n 2, 1) := by decide +kernel
theorem dX10_waitFor_3 : decode cX10_waitFor 3 = .ok (.iload_n 3, 1) := by decide +kernel
theorem dX10_waitFor_4 : decode cX10_waitFor 4 = .ok (.invokevirtual 321, 3) := by decide +kernel
theorem dX10_waitSafe_0 : decode cX10_waitSafe 0 = .ok (.aload_n 0, 1) := by decide +kernel
theorem dX10_waitSafe_1 : decode cX10_waitSafe 1 = .ok (.iload_n 1, 1) := by decide +kernel
theorem dX10_waitSafe_2 : decode cX10_waitSafe 2 = .ok (.iload_n 2, 1) := by decide +kernel
theorem dX10_waitSafe_3 : decode cX10_waitSafe 3 = .ok (.iload_n 3, 1) := by decide +kernel
theorem dX10_waitSafe_4 : decode cX10_waitSafe 4 = .ok (.invokevirtual 321, 3) := by decide +kernel
theorem dX10_waitHurt_0 : decode cX10_waitHurt 0 = .ok (.aload_n 0, 1) := by decide +kernel
theorem dX10_waitHurt_1 : decode cX10_waitHurt 1 = .ok (.iload_n 1, 1) := by decide +kernel
theorem dX10_waitHurt_2 : decode cX10_waitHurt 2 = .ok (.invokevirtual 120, 3) := by decide +kernel
theorem dX10_place_0 : decode cX10_place 0 = .ok (.aload_n 0, 1) := by decide +kernel
theorem dX10_place_1 : decode cX10_place 1 = .ok (.iload_n 1, 1) := by decide +kernel
theorem dX10_place_2 : decode cX10_place 2 = .ok (.invokevirtual 120, 3) := by decide +kernel
theorem dX10_worst_0 : decode cX10_worst 0 = .ok (.aload_n 0, 1) := by decide +kernel
theorem dX10_worst_1 : decode cX10_worst 1 = .ok (.iload_n 1, 1) := by decide +kernel
theorem dX10_worst_2 : decode cX10_worst 2 = .ok (.invokevirtual 120, 3) := by decide +kernel
theorem dX10_both_0 : decode cX10_both 0 = .ok (.aload_n 0, 1) := by decide +kernel
theorem dX10_both_1 : decode cX10_both 1 = .ok (.iload_n 1, 1) := by decide +kernel
theorem dX10_both_2 : decode cX10_both 2 = .ok (.invokevirtual 120, 3) := by decide +kernel
theorem dX10_needHeldAndPlace_0 : decode cX10_needHeldAndPlace 0 = .ok (.aload_n 0, 1) := by decide +kernel
theorem dX10_needHeldAndPlace_1 : decode cX10_needHeldAndPlace 1 = .ok (.iload_n 1, 1) := by decide +kernel
theorem dX10_needHeldAndPlace_2 : decode cX10_needHeldAndPlace 2 = .ok (.invokevirtual 120, 3) := by decide +kernel
theorem dX10_safeWay_0 : decode cX10_safeWay 0 = .ok (.aload_n 0, 1) := by decide +kernel
theorem dX10_safeWay_1 : decode cX10_safeWay 1 = .ok (.iload_n 1, 1) := by decide +kernel
theorem dX10_safeWay_2 : decode cX10_safeWay 2 = .ok (.invokevirtual 156, 3) := by decide +kernel
theorem dX10_safeWay_5 : decode cX10_safeWay 5 = .ok (.aload_n 0, 1) := by decide +kernel
theorem dX10_safeWay_6 : decode cX10_safeWay 6 = .ok (.iload_n 2, 1) := by decide +kernel
theorem dX10_safeWay_7 : decode cX10_safeWay 7 = .ok (.invokevirtual 156, 3) := by decide +kernel
theorem dX10_safeWay_10 : decode cX10_safeWay 10 = .ok (.iload_n 3, 1) := by decide +kernel
theorem dX10_safeWay_11 : decode cX10_safeWay 11 = .ok (.ifCond .eq 25, 3) := by decide +kernel
theorem dX10_safeWay_14 : decode cX10_safeWay 14 = .ok (.iload_n 3, 1) := by decide +kernel
theorem dX10_safeWay_15 : decode cX10_safeWay 15 = .ok (.bipush 10, 2) := by decide +kernel
theorem dX10_safeWay_17 : decode cX10_safeWay 17 = .ok (.if_icmp .lt 9, 3) := by decide +kernel
theorem dX10_safeWay_20 : decode cX10_safeWay 20 = .ok (.iload_n 3, 1) := by decide +kernel
theorem dX10_safeWay_21 : decode cX10_safeWay 21 = .ok (.bipush 70, 2) := by decide +kernel
theorem dX10_safeWay_23 : decode cX10_safeWay 23 = .ok (.if_icmp .le 13, 3) := by decide +kernel
theorem dX10_safeWay_26 : decode cX10_safeWay 26 = .ok (.new 83, 3) := by decide +kernel
theorem dX10_safeWay_29 : decode cX10_safeWay 29 = .ok (.dup, 1) := by decide +kernel
theorem dX10_safeWay_30 : decode cX10_safeWay 30 = .ok (.ldc 141, 2) := by decide +kernel
theorem dX10_safeWay_32 : decode cX10_safeWay 32 = .ok (.invokespecial 87, 3) := by decide +kernel
theorem dX10_safeWay_35 : decode cX10_safeWay 35 = .ok (.athrow, 1) := by decide +kernel
theorem dX10_safeWay_36 : decode cX10_safeWay 36 = .ok (.aload_n 0, 1) := by decide +kernel
theorem dX10_safeWay_37 : decode cX10_safeWay 37 = .ok (.getfield 71, 3) := by decide +kernel
theorem dX10_safeWay_40 : decode cX10_safeWay 40 = .ok (.aload_n 0, 1) := by decide +kernel
theorem dX10_safeWay_41 : decode cX10_safeWay 41 = .ok (.getfield 57, 3) := by decide +kernel
theorem dX10_safeWay_44 : decode cX10_safeWay 44 = .ok (.invokevirtual 289, 3) := by decide +kernel
theorem dX10_safeWay_47 : decode cX10_safeWay 47 = .ok (.aload_n 0, 1) := by decide +kernel
theorem dX10_safeWay_48 : decode cX10_safeWay 48 = .ok (.getfield 22, 3) := by decide +kernel
theorem dX10_safeWay_51 : decode cX10_safeWay 51 = .ok (.aload_n 0, 1) := by decide +kernel
theorem dX10_safeWay_52 : decode cX10_safeWay 52 = .ok (.getfield 71, 3) := by decide +kernel
theorem dX10_safeWay_55 : decode cX10_safeWay 55 = .ok (.iload_n 1, 1) := by decide +kernel
theorem dX10_safeWay_56 : decode cX10_safeWay 56 = .ok (.invokevirtual 346, 3) := by decide +kernel
theorem dX10_safeWay_59 : decode cX10_safeWay 59 = .ok (.aload_n 0, 1) := by decide +kernel
theorem dX10_safeWay_60 : decode cX10_safeWay 60 = .ok (.getfield 22, 3) := by decide +kernel
theorem dX10_safeWay_63 : decode cX10_safeWay 63 = .ok (.iload_n 2, 1) := by decide +kernel
theorem dX10_safeWay_64 : decode cX10_safeWay 64 = .ok (.invokevirtual 349, 3) := by decide +kernel
theorem dX10_safeWay_67 : decode cX10_safeWay 67 = .ok (.istore 4, 2) := by decide +kernel
theorem dX10_safeWay_69 : decode cX10_safeWay 69 = .ok (.iload_n 3, 1) := by decide +kernel
theorem dX10_safeWay_70 : decode cX10_safeWay 70 = .ok (.ifCond .eq 9, 3) := by decide +kernel
theorem dX10_safeWay_73 : decode cX10_safeWay 73 = .ok (.iload 4, 2) := by decide +kernel
theorem dX10_safeWay_75 : decode cX10_safeWay 75 = .ok (.iconst (-1), 1) := by decide +kernel
theorem dX10_safeWay_76 : decode cX10_safeWay 76 = .ok (.if_icmp .ne 6, 3) := by decide +kernel
theorem dX10_safeWay_79 : decode cX10_safeWay 79 = .ok (.iload 4, 2) := by decide +kernel
theorem dX10_safeWay_81 : decode cX10_safeWay 81 = .ok (.ireturn, 1) := by decide +kernel
theorem dX10_safeWay_82 : decode cX10_safeWay 82 = .ok (.aload_n 0, 1) := by decide +kernel
theorem dX10_safeWay_83 : decode cX10_safeWay 83 = .ok (.getfield 22, 3) := by decide +kernel
theorem dX10_safeWay_86 : decode cX10_safeWay 86 = .ok (.iload_n 1, 1) := by decide +kernel
theorem dX10_safeWay_87 : decode cX10_safeWay 87 = .ok (.iload_n 2, 1) := by decide +kernel
theorem dX10_safeWay_88 : decode cX10_safeWay 88 = .ok (.iload 4, 2) := by decide +kernel
theorem dX10_safeWay_90 : decode cX10_safeWay 90 = .ok (.iload_n 3, 1) := by decide +kernel
theorem dX10_safeWay_91 : decode cX10_safeWay 91 = .ok (.bipush 10, 2) := by decide +kernel
theorem dX10_safeWay_93 : decode cX10_safeWay 93 = .ok (.isub, 1) := by decide +kernel
theorem dX10_safeWay_94 : decode cX10_safeWay 94 = .ok (.invokevirtual 352, 3) := by decide +kernel
theorem dX10_safeWay_97 : decode cX10_safeWay 97 = .ok (.ireturn, 1) := by decide +kernel
theorem dX10_safeWays_0 : decode cX10_safeWays 0 = .ok (.aload_n 0, 1) := by decide +kernel
theorem dX10_safeWays_1 : decode cX10_safeWays 1 = .ok (.iload_n 1, 1) := by decide +kernel
theorem dX10_safeWays_2 : decode cX10_safeWays 2 = .ok (.invokevirtual 156, 3) := by decide +kernel
theorem dX10_safeWays_5 : decode cX10_safeWays 5 = .ok (.aload_n 0, 1) := by decide +kernel
theorem dX10_safeWays_6 : decode cX10_safeWays 6 = .ok (.iload_n 2, 1) := by decide +kernel
theorem dX10_safeWays_7 : decode cX10_safeWays 7 = .ok (.invokevirtual 156, 3) := by decide +kernel
theorem dX10_safeWays_10 : decode cX10_safeWays 10 = .ok (.iload_n 3, 1) := by decide +kernel
theorem dX10_safeWays_11 : decode cX10_safeWays 11 = .ok (.iconst 0, 1) := by decide +kernel
theorem dX10_safeWays_12 : decode cX10_safeWays 12 = .ok (.bipush 20, 2) := by decide +kernel
theorem dX10_safeWays_14 : decode cX10_safeWays 14 = .ok (.invokestatic 170, 3) := by decide +kernel
theorem dX10_safeWays_17 : decode cX10_safeWays 17 = .ok (.aload_n 0, 1) := by decide +kernel
theorem dX10_safeWays_18 : decode cX10_safeWays 18 = .ok (.getfield 71, 3) := by decide +kernel
theorem dX10_safeWays_21 : decode cX10_safeWays 21 = .ok (.aload_n 0, 1) := by decide +kernel
theorem dX10_safeWays_22 : decode cX10_safeWays 22 = .ok (.getfield 57, 3) := by decide +kernel
theorem dX10_safeWays_25 : decode cX10_safeWays 25 = .ok (.invokevirtual 289, 3) := by decide +kernel
theorem dX10_safeWays_28 : decode cX10_safeWays 28 = .ok (.aload_n 0, 1) := by decide +kernel
theorem dX10_safeWays_29 : decode cX10_safeWays 29 = .ok (.getfield 22, 3) := by decide +kernel
theorem dX10_safeWays_32 : decode cX10_safeWays 32 = .ok (.aload_n 0, 1) := by decide +kernel
theorem dX10_safeWays_33 : decode cX10_safeWays 33 = .ok (.getfield 71, 3) := by decide +kernel
theorem dX10_safeWays_36 : decode cX10_safeWays 36 = .ok (.iload_n 1, 1) := by decide +kernel
theorem dX10_safeWays_37 : decode cX10_safeWays 37 = .ok (.invokevirtual 346, 3) := by decide +kernel
theorem dX10_safeWays_40 : decode cX10_safeWays 40 = .ok (.aload_n 0, 1) := by decide +kernel
theorem dX10_safeWays_41 : decode cX10_safeWays 41 = .ok (.getfield 22, 3) := by decide +kernel
theorem dX10_safeWays_44 : decode cX10_safeWays 44 = .ok (.iload_n 1, 1) := by decide +kernel
theorem dX10_safeWays_45 : decode cX10_safeWays 45 = .ok (.iload_n 2, 1) := by decide +kernel
theorem dX10_safeWays_46 : decode cX10_safeWays 46 = .ok (.iload_n 3, 1) := by decide +kernel
theorem dX10_safeWays_47 : decode cX10_safeWays 47 = .ok (.invokevirtual 356, 3) := by decide +kernel
theorem dX10_safeWays_50 : decode cX10_safeWays 50 = .ok (.lreturn, 1) := by decide +kernel
theorem dX10_safeIn_0 : decode cX10_safeIn 0 = .ok (.aload_n 0, 1) := by decide +kernel
theorem dX10_safeIn_1 : decode cX10_safeIn 1 = .ok (.iload_n 1, 1) := by decide +kernel
theorem dX10_safeIn_2 : decode cX10_safeIn 2 = .ok (.invokevirtual 156, 3) := by decide +kernel
theorem dX10_safeIn_5 : decode cX10_safeIn 5 = .ok (.iload_n 2, 1) := by decide +kernel
theorem dX10_safeIn_6 : decode cX10_safeIn 6 = .ok (.iconst 0, 1) := by decide +kernel
theorem dX10_safeIn_7 : decode cX10_safeIn 7 = .ok (.bipush 60, 2) := by decide +kernel
theorem dX10_safeIn_9 : decode cX10_safeIn 9 = .ok (.invokestatic 170, 3) := by decide +kernel
theorem dX10_safeIn_12 : decode cX10_safeIn 12 = .ok (.aload_n 0, 1) := by decide +kernel
theorem dX10_safeIn_13 : decode cX10_safeIn 13 = .ok (.getfield 71, 3) := by decide +kernel
theorem dX10_safeIn_16 : decode cX10_safeIn 16 = .ok (.aload_n 0, 1) := by decide +kernel
theorem dX10_safeIn_17 : decode cX10_safeIn 17 = .ok (.getfield 57, 3) := by decide +kernel
theorem dX10_safeIn_20 : decode cX10_safeIn 20 = .ok (.invokevirtual 289, 3) := by decide +kernel
theorem dX10_safeIn_23 : decode cX10_safeIn 23 = .ok (.aload_n 0, 1) := by decide +kernel
theorem dX10_safeIn_24 : decode cX10_safeIn 24 = .ok (.getfield 22, 3) := by decide +kernel
theorem dX10_safeIn_27 : decode cX10_safeIn 27 = .ok (.aload_n 0, 1) := by decide +kernel
theorem dX10_safeIn_28 : decode cX10_safeIn 28 = .ok (.getfield 71, 3) := by decide +kernel
theorem dX10_safeIn_31 : decode cX10_safeIn 31 = .ok (.iload_n 1, 1) := by decide +kernel
theorem dX10_safeIn_32 : decode cX10_safeIn 32 = .ok (.invokevirtual 346, 3) := by decide +kernel
theorem dX10_safeIn_35 : decode cX10_safeIn 35 = .ok (.aload_n 0, 1) := by decide +kernel
theorem dX10_safeIn_36 : decode cX10_safeIn 36 = .ok (.getfield 22, 3) := by decide +kernel
theorem dX10_safeIn_39 : decode cX10_safeIn 39 = .ok (.getfield 360, 3) := by decide +kernel
theorem dX10_safeIn_42 : decode cX10_safeIn 42 = .ok (.iload_n 2, 1) := by decide +kernel
theorem dX10_safeIn_43 : decode cX10_safeIn 43 = .ok (.iaload, 1) := by decide +kernel
theorem dX10_safeIn_44 : decode cX10_safeIn 44 = .ok (.ireturn, 1) := by decide +kernel
theorem dX10_shelter_0 : decode cX10_shelter 0 = .ok (.aload_n 0, 1) := by decide +kernel
theorem dX10_shelter_1 : decode cX10_shelter 1 = .ok (.getfield 71, 3) := by decide +kernel
theorem dX10_shelter_4 : decode cX10_shelter 4 = .ok (.aload_n 0, 1) := by decide +kernel
theorem dX10_shelter_5 : decode cX10_shelter 5 = .ok (.getfield 57, 3) := by decide +kernel
theorem dX10_shelter_8 : decode cX10_shelter 8 = .ok (.invokevirtual 289, 3) := by decide +kernel
theorem dX10_shelter_11 : decode cX10_shelter 11 = .ok (.iconst 0, 1) := by decide +kernel
theorem dX10_shelter_12 : decode cX10_shelter 12 = .ok (.istore_n 1, 1) := by decide +kernel
theorem dX10_shelter_13 : decode cX10_shelter 13 = .ok (.iconst (-1), 1) := by decide +kernel
theorem dX10_shelter_14 : decode cX10_shelter 14 = .ok (.istore_n 2, 1) := by decide +kernel
theorem dX10_shelter_15 : decode cX10_shelter 15 = .ok (.iconst 0, 1) := by decide +kernel
theorem dX10_shelter_16 : decode cX10_shelter 16 = .ok (.istore_n 3, 1) := by decide +kernel
theorem dX10_shelter_17 : decode cX10_shelter 17 = .ok (.iload_n 3, 1) := by decide +kernel
theorem dX10_shelter_18 : decode cX10_shelter 18 = .ok (.aload_n 0, 1) := by decide +kernel
theorem dX10_shelter_19 : decode cX10_shelter 19 = .ok (.getfield 57, 3) := by decide +kernel
theorem dX10_shelter_22 : decode cX10_shelter 22 = .ok (.getfield 113, 3) := by decide +kernel
theorem dX10_shelter_25 : decode cX10_shelter 25 = .ok (.getfield 191, 3) := by decide +kernel
theorem dX10_shelter_28 : decode cX10_shelter 28 = .ok (.if_icmp .ge 77, 3) := by decide +kernel
theorem dX10_shelter_31 : decode cX10_shelter 31 = .ok (.bipush 60, 2) := by decide +kernel
theorem dX10_shelter_33 : decode cX10_shelter 33 = .ok (.istore 4, 2) := by decide +kernel
theorem dX10_shelter_35 : decode cX10_shelter 35 = .ok (.iconst 0, 1) := by decide +kernel
theorem dX10_shelter_36 : decode cX10_shelter 36 = .ok (.istore 5, 2) := by decide +kernel
theorem dX10_shelter_38 : decode cX10_shelter 38 = .ok (.iload 5, 2) := by decide +kernel
theorem dX10_shelter_40 : decode cX10_shelter 40 = .ok (.aload_n 0, 1) := by decide +kernel
theorem dX10_shelter_41 : decode cX10_shelter 41 = .ok (.getfield 71, 3) := by decide +kernel
theorem dX10_shelter_44 : decode cX10_shelter 44 = .ok (.getfield 295, 3) := by decide +kernel
theorem dX10_shelter_47 : decode cX10_shelter 47 = .ok (.if_icmp .ge 41, 3) := by decide +kernel
theorem dX10_shelter_88 : decode cX10_shelter 88 = .ok (.iload 4, 2) := by decide +kernel
theorem dX10_shelter_90 : decode cX10_shelter 90 = .ok (.iload_n 2, 1) := by decide +kernel
theorem dX10_shelter_91 : decode cX10_shelter 91 = .ok (.if_icmp .le 8, 3) := by decide +kernel
theorem dX10_shelter_94 : decode cX10_shelter 94 = .ok (.iload 4, 2) := by decide +kernel
theorem dX10_shelter_96 : decode cX10_shelter 96 = .ok (.istore_n 2, 1) := by decide +kernel
theorem dX10_shelter_97 : decode cX10_shelter 97 = .ok (.iload_n 3, 1) := by decide +kernel
theorem dX10_shelter_98 : decode cX10_shelter 98 = .ok (.istore_n 1, 1) := by decide +kernel
theorem dX10_shelter_99 : decode cX10_shelter 99 = .ok (.iinc 3 1, 3) := by decide +kernel
theorem dX10_shelter_102 : decode cX10_shelter 102 = .ok (.goto (-85), 3) := by decide +kernel
theorem dX10_shelter_105 : decode cX10_shelter 105 = .ok (.iload_n 1, 1) := by decide +kernel
theorem dX10_shelter_106 : decode cX10_shelter 106 = .ok (.ireturn, 1) := by decide +kernel
theorem dX10_later_0 : decode cX10_later 0 = .ok (.aload_n 0, 1) := by decide +kernel
theorem dX10_later_1 : decode cX10_later 1 = .ok (.iload_n 1, 1) := by decide +kernel
theorem dX10_later_2 : decode cX10_later 2 = .ok (.invokevirtual 143, 3) := by decide +kernel
theorem dX10_letGoBy_0 : decode cX10_letGoBy 0 = .ok (.aload_n 0, 1) := by decide +kernel
theorem dX10_letGoBy_1 : decode cX10_letGoBy 1 = .ok (.iload_n 1, 1) := by decide +kernel
theorem dX10_letGoBy_2 : decode cX10_letGoBy 2 = .ok (.iload_n 2, 1) := by decide +kernel
theorem dX10_letGoBy_3 : decode cX10_letGoBy 3 = .ok (.invokevirtual 163, 3) := by decide +kernel
theorem dX10_letGoBy_6 : decode cX10_letGoBy 6 = .ok (.iload_n 3, 1) := by decide +kernel
theorem dX10_letGoBy_7 : decode cX10_letGoBy 7 = .ok (.iconst 1, 1) := by decide +kernel
theorem dX10_letGoBy_8 : decode cX10_letGoBy 8 = .ok (.bipush 99, 2) := by decide +kernel
theorem dX10_letGoBy_10 : decode cX10_letGoBy 10 = .ok (.invokestatic 170, 3) := by decide +kernel
theorem dX10_letGoBy_13 : decode cX10_letGoBy 13 = .ok (.iconst 0, 1) := by decide +kernel
theorem dX10_letGoBy_14 : decode cX10_letGoBy 14 = .ok (.istore 4, 2) := by decide +kernel
theorem dX10_letGoBy_16 : decode cX10_letGoBy 16 = .ok (.iconst 0, 1) := by decide +kernel
theorem dX10_letGoBy_17 : decode cX10_letGoBy 17 = .ok (.istore 5, 2) := by decide +kernel
theorem dX10_letGoBy_19 : decode cX10_letGoBy 19 = .ok (.iload 5, 2) := by decide +kernel
theorem dX10_letGoBy_21 : decode cX10_letGoBy 21 = .ok (.bipush 60, 2) := by decide +kernel
theorem dX10_letGoBy_23 : decode cX10_letGoBy 23 = .ok (.if_icmp .gt 54, 3) := by decide +kernel
theorem dX10_letGoBy_26 : decode cX10_letGoBy 26 = .ok (.iload 5, 2) := by decide +kernel
theorem dX10_letGoBy_28 : decode cX10_letGoBy 28 = .ok (.aload_n 0, 1) := by decide +kernel
theorem dX10_letGoBy_29 : decode cX10_letGoBy 29 = .ok (.getfield 57, 3) := by decide +kernel
theorem dX10_letGoBy_32 : decode cX10_letGoBy 32 = .ok (.getfield 135, 3) := by decide +kernel
theorem dX10_letGoBy_35 : decode cX10_letGoBy 35 = .ok (.if_icmp .gt 42, 3) := by decide +kernel
theorem dX10_letGoBy_38 : decode cX10_letGoBy 38 = .ok (.iconst 0, 1) := by decide +kernel
theorem dX10_letGoBy_39 : decode cX10_letGoBy 39 = .ok (.istore 6, 2) := by decide +kernel
theorem dX10_letGoBy_41 : decode cX10_letGoBy 41 = .ok (.iload 6, 2) := by decide +kernel
theorem dX10_letGoBy_43 : decode cX10_letGoBy 43 = .ok (.bipush 60, 2) := by decide +kernel
theorem dX10_letGoBy_45 : decode cX10_letGoBy 45 = .ok (.if_icmp .gt 26, 3) := by decide +kernel
theorem dX10_letGoBy_48 : decode cX10_letGoBy 48 = .ok (.aload_n 0, 1) := by decide +kernel
theorem dX10_letGoBy_49 : decode cX10_letGoBy 49 = .ok (.iload_n 1, 1) := by decide +kernel
theorem dX10_letGoBy_50 : decode cX10_letGoBy 50 = .ok (.iload_n 2, 1) := by decide +kernel
theorem dX10_letGoBy_51 : decode cX10_letGoBy 51 = .ok (.iload_n 3, 1) := by decide +kernel
theorem dX10_letGoBy_52 : decode cX10_letGoBy 52 = .ok (.iload 5, 2) := by decide +kernel
theorem dX10_letGoBy_54 : decode cX10_letGoBy 54 = .ok (.iload 6, 2) := by decide +kernel
theorem dX10_letGoBy_56 : decode cX10_letGoBy 56 = .ok (.invokevirtual 368, 3) := by decide +kernel
theorem dX10_letGoBy_59 : decode cX10_letGoBy 59 = .ok (.ifCond .eq 6, 3) := by decide +kernel
theorem dX10_letGoBy_62 : decode cX10_letGoBy 62 = .ok (.iinc 4 1, 3) := by decide +kernel
theorem dX10_letGoBy_65 : decode cX10_letGoBy 65 = .ok (.iinc 6 1, 3) := by decide +kernel
theorem dX10_letGoBy_68 : decode cX10_letGoBy 68 = .ok (.goto (-27), 3) := by decide +kernel
theorem dX10_letGoBy_71 : decode cX10_letGoBy 71 = .ok (.iinc 5 1, 3) := by decide +kernel
theorem dX10_letGoBy_74 : decode cX10_letGoBy 74 = .ok (.goto (-55), 3) := by decide +kernel
theorem dX10_letGoBy_77 : decode cX10_letGoBy 77 = .ok (.iload 4, 2) := by decide +kernel
theorem dX10_letGoBy_79 : decode cX10_letGoBy 79 = .ok (.ireturn, 1) := by decide +kernel
theorem dX10_letGoAt_0 : decode cX10_letGoAt 0 = .ok (.aload_n 0, 1) := by decide +kernel
theorem dX10_letGoAt_1 : decode cX10_letGoAt 1 = .ok (.iload_n 1, 1) := by decide +kernel
theorem dX10_letGoAt_2 : decode cX10_letGoAt 2 = .ok (.iload_n 2, 1) := by decide +kernel
theorem dX10_letGoAt_3 : decode cX10_letGoAt 3 = .ok (.invokevirtual 163, 3) := by decide +kernel
theorem dX10_letGoAt_6 : decode cX10_letGoAt 6 = .ok (.iload_n 3, 1) := by decide +kernel
theorem dX10_letGoAt_7 : decode cX10_letGoAt 7 = .ok (.iconst 1, 1) := by decide +kernel
theorem dX10_letGoAt_8 : decode cX10_letGoAt 8 = .ok (.bipush 99, 2) := by decide +kernel
theorem dX10_letGoAt_10 : decode cX10_letGoAt 10 = .ok (.invokestatic 170, 3) := by decide +kernel
theorem dX10_letGoAt_13 : decode cX10_letGoAt 13 = .ok (.iload 4, 2) := by decide +kernel
theorem dX10_letGoAt_15 : decode cX10_letGoAt 15 = .ok (.iconst 0, 1) := by decide +kernel
theorem dX10_letGoAt_16 : decode cX10_letGoAt 16 = .ok (.ldc_w 372, 3) := by decide +kernel
theorem dX10_letGoAt_19 : decode cX10_letGoAt 19 = .ok (.invokestatic 170, 3) := by decide +kernel
theorem dX10_letGoAt_22 : decode cX10_letGoAt 22 = .ok (.iconst 0, 1) := by decide +kernel
theorem dX10_letGoAt_23 : decode cX10_letGoAt 23 = .ok (.istore 5, 2) := by decide +kernel
theorem dX10_letGoAt_25 : decode cX10_letGoAt 25 = .ok (.iconst 0, 1) := by decide +kernel
theorem dX10_letGoAt_26 : decode cX10_letGoAt 26 = .ok (.istore 6, 2) := by decide +kernel
theorem dX10_letGoAt_28 : decode cX10_letGoAt 28 = .ok (.iload 6, 2) := by decide +kernel
theorem dX10_letGoAt_30 : decode cX10_letGoAt 30 = .ok (.bipush 60, 2) := by decide +kernel
theorem dX10_letGoAt_32 : decode cX10_letGoAt 32 = .ok (.if_icmp .gt 70, 3) := by decide +kernel
theorem dX10_letGoAt_35 : decode cX10_letGoAt 35 = .ok (.iload 6, 2) := by decide +kernel
theorem dX10_letGoAt_37 : decode cX10_letGoAt 37 = .ok (.aload_n 0, 1) := by decide +kernel
theorem dX10_letGoAt_38 : decode cX10_letGoAt 38 = .ok (.getfield 57, 3) := by decide +kernel
theorem dX10_letGoAt_41 : decode cX10_letGoAt 41 = .ok (.getfield 135, 3) := by decide +kernel
theorem dX10_letGoAt_44 : decode cX10_letGoAt 44 = .ok (.if_icmp .gt 58, 3) := by decide +kernel
theorem dX10_letGoAt_47 : decode cX10_letGoAt 47 = .ok (.iconst 0, 1) := by decide +kernel
theorem dX10_letGoAt_48 : decode cX10_letGoAt 48 = .ok (.istore 7, 2) := by decide +kernel
theorem dX10_letGoAt_50 : decode cX10_letGoAt 50 = .ok (.iload 7, 2) := by decide +kernel
theorem dX10_letGoAt_52 : decode cX10_letGoAt 52 = .ok (.bipush 60, 2) := by decide +kernel
theorem dX10_letGoAt_54 : decode cX10_letGoAt 54 = .ok (.if_icmp .gt 42, 3) := by decide +kernel
theorem dX10_letGoAt_57 : decode cX10_letGoAt 57 = .ok (.aload_n 0, 1) := by decide +kernel
theorem dX10_letGoAt_58 : decode cX10_letGoAt 58 = .ok (.iload_n 1, 1) := by decide +kernel
theorem dX10_letGoAt_59 : decode cX10_letGoAt 59 = .ok (.iload_n 2, 1) := by decide +kernel
theorem dX10_letGoAt_60 : decode cX10_letGoAt 60 = .ok (.iload_n 3, 1) := by decide +kernel
theorem dX10_letGoAt_61 : decode cX10_letGoAt 61 = .ok (.iload 6, 2) := by decide +kernel
theorem dX10_letGoAt_63 : decode cX10_letGoAt 63 = .ok (.iload 7, 2) := by decide +kernel
theorem dX10_letGoAt_65 : decode cX10_letGoAt 65 = .ok (.invokevirtual 368, 3) := by decide +kernel
theorem dX10_letGoAt_68 : decode cX10_letGoAt 68 = .ok (.ifCond .eq 22, 3) := by decide +kernel
theorem dX10_letGoAt_71 : decode cX10_letGoAt 71 = .ok (.iload 5, 2) := by decide +kernel
theorem dX10_letGoAt_73 : decode cX10_letGoAt 73 = .ok (.iload 4, 2) := by decide +kernel
theorem dX10_letGoAt_75 : decode cX10_letGoAt 75 = .ok (.if_icmp .ne 12, 3) := by decide +kernel
theorem dX10_letGoAt_78 : decode cX10_letGoAt 78 = .ok (.bipush 100, 2) := by decide +kernel
theorem dX10_letGoAt_80 : decode cX10_letGoAt 80 = .ok (.iload 6, 2) := by decide +kernel
theorem dX10_letGoAt_82 : decode cX10_letGoAt 82 = .ok (.imul, 1) := by decide +kernel
theorem dX10_letGoAt_83 : decode cX10_letGoAt 83 = .ok (.iload 7, 2) := by decide +kernel
theorem dX10_letGoAt_85 : decode cX10_letGoAt 85 = .ok (.iadd, 1) := by decide +kernel
theorem dX10_letGoAt_86 : decode cX10_letGoAt 86 = .ok (.ireturn, 1) := by decide +kernel
theorem dX10_letGoAt_87 : decode cX10_letGoAt 87 = .ok (.iinc 5 1, 3) := by decide +kernel
theorem dX10_letGoAt_90 : decode cX10_letGoAt 90 = .ok (.iinc 7 1, 3) := by decide +kernel
theorem dX10_letGoAt_93 : decode cX10_letGoAt 93 = .ok (.goto (-43), 3) := by decide +kernel
theorem dX10_letGoAt_96 : decode cX10_letGoAt 96 = .ok (.iinc 6 1, 3) := by decide +kernel
theorem dX10_letGoAt_99 : decode cX10_letGoAt 99 = .ok (.goto (-71), 3) := by decide +kernel
theorem dX10_letGoAt_102 : decode cX10_letGoAt 102 = .ok (.iconst (-1), 1) := by decide +kernel
theorem dX10_letGoAt_103 : decode cX10_letGoAt 103 = .ok (.ireturn, 1) := by decide +kernel
theorem dX10_levels_0 : decode cX10_levels 0 = .ok (.aload_n 0, 1) := by decide +kernel
theorem dX10_levels_1 : decode cX10_levels 1 = .ok (.iload_n 1, 1) := by decide +kernel
theorem dX10_levels_2 : decode cX10_levels 2 = .ok (.invokevirtual 156, 3) := by decide +kernel
theorem dX10_levels_5 : decode cX10_levels 5 = .ok (.iload_n 2, 1) := by decide +kernel
theorem dX10_levels_6 : decode cX10_levels 6 = .ok (.iconst 1, 1) := by decide +kernel
theorem dX10_levels_7 : decode cX10_levels 7 = .ok (.bipush 99, 2) := by decide +kernel
theorem dX10_levels_9 : decode cX10_levels 9 = .ok (.invokestatic 170, 3) := by decide +kernel
theorem dX10_levels_12 : decode cX10_levels 12 = .ok (.iload_n 3, 1) := by decide +kernel
theorem dX10_levels_13 : decode cX10_levels 13 = .ok (.iconst 0, 1) := by decide +kernel
theorem dX10_levels_14 : decode cX10_levels 14 = .ok (.bipush 60, 2) := by decide +kernel
theorem dX10_levels_16 : decode cX10_levels 16 = .ok (.aload_n 0, 1) := by decide +kernel
theorem dX10_levels_17 : decode cX10_levels 17 = .ok (.getfield 57, 3) := by decide +kernel
theorem dX10_levels_20 : decode cX10_levels 20 = .ok (.getfield 135, 3) := by decide +kernel
theorem dX10_levels_23 : decode cX10_levels 23 = .ok (.invokestatic 363, 3) := by decide +kernel
theorem dX10_levels_26 : decode cX10_levels 26 = .ok (.invokestatic 170, 3) := by decide +kernel
theorem dX10_levels_29 : decode cX10_levels 29 = .ok (.iload 4, 2) := by decide +kernel
theorem dX10_levels_31 : decode cX10_levels 31 = .ok (.iconst 0, 1) := by decide +kernel
theorem dX10_levels_32 : decode cX10_levels 32 = .ok (.bipush 60, 2) := by decide +kernel
theorem dX10_levels_34 : decode cX10_levels 34 = .ok (.invokestatic 170, 3) := by decide +kernel
theorem dX10_levels_37 : decode cX10_levels 37 = .ok (.iconst 0, 1) := by decide +kernel
theorem dX10_levels_38 : decode cX10_levels 38 = .ok (.istore 5, 2) := by decide +kernel
theorem dX10_levels_40 : decode cX10_levels 40 = .ok (.iconst 0, 1) := by decide +kernel
theorem dX10_levels_41 : decode cX10_levels 41 = .ok (.istore 6, 2) := by decide +kernel
theorem dX10_levels_43 : decode cX10_levels 43 = .ok (.iload 6, 2) := by decide +kernel
theorem dX10_levels_45 : decode cX10_levels 45 = .ok (.aload_n 0, 1) := by decide +kernel
theorem dX10_levels_46 : decode cX10_levels 46 = .ok (.getfield 57, 3) := by decide +kernel
theorem dX10_levels_49 : decode cX10_levels 49 = .ok (.getfield 113, 3) := by decide +kernel
theorem dX10_levels_52 : decode cX10_levels 52 = .ok (.getfield 271, 3) := by decide +kernel
theorem dX10_levels_55 : decode cX10_levels 55 = .ok (.if_icmp .ge 32, 3) := by decide +kernel
theorem dX10_levels_58 : decode cX10_levels 58 = .ok (.aload_n 0, 1) := by decide +kernel
theorem dX10_levels_59 : decode cX10_levels 59 = .ok (.iload_n 1, 1) := by decide +kernel
theorem dX10_levels_60 : decode cX10_levels 60 = .ok (.iload 6, 2) := by decide +kernel
theorem dX10_levels_62 : decode cX10_levels 62 = .ok (.iload_n 2, 1) := by decide +kernel
theorem dX10_levels_63 : decode cX10_levels 63 = .ok (.iload_n 3, 1) := by decide +kernel
theorem dX10_levels_64 : decode cX10_levels 64 = .ok (.iload 4, 2) := by decide +kernel
theorem dX10_levels_66 : decode cX10_levels 66 = .ok (.invokevirtual 368, 3) := by decide +kernel
theorem dX10_levels_69 : decode cX10_levels 69 = .ok (.ifCond .eq 12, 3) := by decide +kernel
theorem dX10_levels_72 : decode cX10_levels 72 = .ok (.iload 5, 2) := by decide +kernel
theorem dX10_levels_74 : decode cX10_levels 74 = .ok (.iconst 1, 1) := by decide +kernel
theorem dX10_levels_75 : decode cX10_levels 75 = .ok (.iload 6, 2) := by decide +kernel
theorem dX10_levels_77 : decode cX10_levels 77 = .ok (.ishl, 1) := by decide +kernel
theorem dX10_levels_78 : decode cX10_levels 78 = .ok (.ior, 1) := by decide +kernel
theorem dX10_levels_79 : decode cX10_levels 79 = .ok (.istore 5, 2) := by decide +kernel
theorem dX10_levels_81 : decode cX10_levels 81 = .ok (.iinc 6 1, 3) := by decide +kernel
theorem dX10_levels_84 : decode cX10_levels 84 = .ok (.goto (-41), 3) := by decide +kernel
theorem dX10_levels_87 : decode cX10_levels 87 = .ok (.iload 5, 2) := by decide +kernel
theorem dX10_levels_89 : decode cX10_levels 89 = .ok (.ireturn, 1) := by decide +kernel
theorem dX10_isLetGoBy_0 : decode cX10_isLetGoBy 0 = .ok (.aload_n 0, 1) := by decide +kernel
theorem dX10_isLetGoBy_1 : decode cX10_isLetGoBy 1 = .ok (.getfield 57, 3) := by decide +kernel
theorem dX10_isLetGoBy_4 : decode cX10_isLetGoBy 4 = .ok (.getfield 113, 3) := by decide +kernel
theorem dX10_isLetGoBy_7 : decode cX10_isLetGoBy 7 = .ok (.iload 5, 2) := by decide +kernel
theorem dX10_isLetGoBy_9 : decode cX10_isLetGoBy 9 = .ok (.iload_n 3, 1) := by decide +kernel
theorem dX10_isLetGoBy_10 : decode cX10_isLetGoBy 10 = .ok (.iload_n 1, 1) := by decide +kernel
theorem dX10_isLetGoBy_11 : decode cX10_isLetGoBy 11 = .ok (.iload_n 2, 1) := by decide +kernel
theorem dX10_isLetGoBy_12 : decode cX10_isLetGoBy 12 = .ok (.aload_n 0, 1) := by decide +kernel
theorem dX10_isLetGoBy_13 : decode cX10_isLetGoBy 13 = .ok (.getfield 57, 3) := by decide +kernel
theorem dX10_isLetGoBy_16 : decode cX10_isLetGoBy 16 = .ok (.getfield 135, 3) := by decide +kernel
theorem dX10_isLetGoBy_19 : decode cX10_isLetGoBy 19 = .ok (.iload 4, 2) := by decide +kernel
theorem dX10_isLetGoBy_21 : decode cX10_isLetGoBy 21 = .ok (.isub, 1) := by decide +kernel
theorem dX10_isLetGoBy_22 : decode cX10_isLetGoBy 22 = .ok (.aload_n 0, 1) := by decide +kernel
theorem dX10_isLetGoBy_23 : decode cX10_isLetGoBy 23 = .ok (.getfield 57, 3) := by decide +kernel
theorem dX10_isLetGoBy_26 : decode cX10_isLetGoBy 26 = .ok (.iload_n 1, 1) := by decide +kernel
theorem dX10_isLetGoBy_27 : decode cX10_isLetGoBy 27 = .ok (.invokevirtual 159, 3) := by decide +kernel
theorem dX10_isLetGoBy_30 : decode cX10_isLetGoBy 30 = .ok (.invokevirtual 174, 3) := by decide +kernel
theorem dX10_isLetGoBy_33 : decode cX10_isLetGoBy 33 = .ok (.iload 4, 2) := by decide +kernel
theorem dX10_isLetGoBy_35 : decode cX10_isLetGoBy 35 = .ok (.if_icmp .ne 7, 3) := by decide +kernel
theorem dX10_isLetGoBy_38 : decode cX10_isLetGoBy 38 = .ok (.iconst 1, 1) := by decide +kernel
theorem dX10_isLetGoBy_39 : decode cX10_isLetGoBy 39 = .ok (.goto 4, 3) := by decide +kernel
theorem dX10_isLetGoBy_42 : decode cX10_isLetGoBy 42 = .ok (.iconst 0, 1) := by decide +kernel
theorem dX10_isLetGoBy_43 : decode cX10_isLetGoBy 43 = .ok (.ireturn, 1) := by decide +kernel
theorem dX10_tray_0 : decode cX10_tray 0 = .ok (.aload_n 0, 1) := by decide +kernel
theorem dX10_tray_1 : decode cX10_tray 1 = .ok (.iload_n 1, 1) := by decide +kernel
theorem dX10_tray_2 : decode cX10_tray 2 = .ok (.invokevirtual 373, 3) := by decide +kernel
theorem dX10_tray_5 : decode cX10_tray 5 = .ok (.astore 4, 2) := by decide +kernel
theorem dX10_tray_7 : decode cX10_tray 7 = .ok (.iload_n 2, 1) := by decide +kernel
theorem dX10_tray_8 : decode cX10_tray 8 = .ok (.ifCond .lt 18, 3) := by decide +kernel
theorem dX10_tray_11 : decode cX10_tray 11 = .ok (.iload_n 2, 1) := by decide +kernel
theorem dX10_tray_12 : decode cX10_tray 12 = .ok (.iconst 4, 1) := by decide +kernel
theorem dX10_tray_13 : decode cX10_tray 13 = .ok (.if_icmp .ge 13, 3) := by decide +kernel
theorem dX10_tray_16 : decode cX10_tray 16 = .ok (.iload_n 3, 1) := by decide +kernel
theorem dX10_tray_17 : decode cX10_tray 17 = .ok (.ifCond .lt 9, 3) := by decide +kernel
theorem dX10_tray_20 : decode cX10_tray 20 = .ok (.iload_n 3, 1) := by decide +kernel
theorem dX10_tray_21 : decode cX10_tray 21 = .ok (.bipush 30, 2) := by decide +kernel
theorem dX10_tray_23 : decode cX10_tray 23 = .ok (.if_icmp .le 14, 3) := by decide +kernel
theorem dX10_tray_26 : decode cX10_tray 26 = .ok (.new 83, 3) := by decide +kernel
theorem dX10_tray_29 : decode cX10_tray 29 = .ok (.dup, 1) := by decide +kernel
theorem dX10_tray_30 : decode cX10_tray 30 = .ok (.ldc_w 376, 3) := by decide +kernel
theorem dX10_tray_33 : decode cX10_tray 33 = .ok (.invokespecial 87, 3) := by decide +kernel
theorem dX10_tray_36 : decode cX10_tray 36 = .ok (.athrow, 1) := by decide +kernel
theorem dX10_tray_37 : decode cX10_tray 37 = .ok (.aload 4, 2) := by decide +kernel
theorem dX10_tray_39 : decode cX10_tray 39 = .ok (.iload_n 2, 1) := by decide +kernel
theorem dX10_tray_40 : decode cX10_tray 40 = .ok (.iload_n 3, 1) := by decide +kernel
theorem dX10_tray_41 : decode cX10_tray 41 = .ok (.invokevirtual 378, 3) := by decide +kernel
theorem dX10_tray_44 : decode cX10_tray 44 = .ok (.return_, 1) := by decide +kernel
theorem dX10_write_0 : decode cX10_write 0 = .ok (.aload_n 0, 1) := by decide +kernel
theorem dX10_write_1 : decode cX10_write 1 = .ok (.iload_n 1, 1) := by decide +kernel
theorem dX10_write_2 : decode cX10_write 2 = .ok (.invokevirtual 236, 3) := by decide +kernel
theorem dX10_copy_0 : decode cX10_copy 0 = .ok (.aload_n 0, 1) := by decide +kernel
theorem dX10_copy_1 : decode cX10_copy 1 = .ok (.iload_n 1, 1) := by decide +kernel
theorem dX10_copy_2 : decode cX10_copy 2 = .ok (.invokevirtual 236, 3) := by decide +kernel
theorem dX10_image_0 : decode cX10_image 0 = .ok (.iload_n 1, 1) := by decide +kernel
theorem dX10_image_1 : decode cX10_image 1 = .ok (.invokestatic 388, 3) := by decide +kernel
theorem dX10_image_4 : decode cX10_image 4 = .ok (.aload_n 0, 1) := by decide +kernel
theorem dX10_image_5 : decode cX10_image 5 = .ok (.getfield 38, 3) := by decide +kernel
theorem dX10_image_8 : decode cX10_image 8 = .ok (.iload_n 1, 1) := by decide +kernel
theorem dX10_image_9 : decode cX10_image 9 = .ok (.aaload, 1) := by decide +kernel
theorem dX10_image_10 : decode cX10_image 10 = .ok (.ifnonnull 23, 3) := by decide +kernel
theorem dX10_image_13 : decode cX10_image 13 = .ok (.aload_n 0, 1) := by decide +kernel
theorem dX10_image_14 : decode cX10_image 14 = .ok (.getfield 38, 3) := by decide +kernel
theorem dX10_image_17 : decode cX10_image 17 = .ok (.iload_n 1, 1) := by decide +kernel
theorem dX10_image_18 : decode cX10_image 18 = .ok (.new 36, 3) := by decide +kernel
theorem dX10_image_21 : decode cX10_image 21 = .ok (.dup, 1) := by decide +kernel
theorem dX10_image_22 : decode cX10_image 22 = .ok (.aload_n 0, 1) := by decide +kernel
theorem dX10_image_23 : decode cX10_image 23 = .ok (.getfield 57, 3) := by decide +kernel
theorem dX10_image_26 : decode cX10_image 26 = .ok (.getfield 113, 3) := by decide +kernel
theorem dX10_image_29 : decode cX10_image 29 = .ok (.invokespecial 391, 3) := by decide +kernel
theorem dX10_image_32 : decode cX10_image 32 = .ok (.aastore, 1) := by decide +kernel
theorem dX10_image_33 : decode cX10_image 33 = .ok (.aload_n 0, 1) := by decide +kernel
theorem dX10_image_34 : decode cX10_image 34 = .ok (.getfield 38, 3) := by decide +kernel
theorem dX10_image_37 : decode cX10_image 37 = .ok (.iload_n 1, 1) := by decide +kernel
theorem dX10_image_38 : decode cX10_image 38 = .ok (.aaload, 1) := by decide +kernel
theorem dX10_image_39 : decode cX10_image 39 = .ok (.getfield 392, 3) := by decide +kernel
theorem dX10_image_42 : decode cX10_image 42 = .ok (.aload_n 0, 1) := by decide +kernel
theorem dX10_image_43 : decode cX10_image 43 = .ok (.getfield 57, 3) := by decide +kernel
theorem dX10_image_46 : decode cX10_image 46 = .ok (.invokevirtual 106, 3) := by decide +kernel
theorem dX10_image_49 : decode cX10_image 49 = .ok (.aload_n 0, 1) := by decide +kernel
theorem dX10_image_50 : decode cX10_image 50 = .ok (.getfield 38, 3) := by decide +kernel
theorem dX10_image_53 : decode cX10_image 53 = .ok (.iload_n 1, 1) := by decide +kernel
theorem dX10_image_54 : decode cX10_image 54 = .ok (.aaload, 1) := by decide +kernel
theorem dX10_image_55 : decode cX10_image 55 = .ok (.getfield 393, 3) := by decide +kernel
theorem dX10_image_58 : decode cX10_image 58 = .ok (.aload_n 0, 1) := by decide +kernel
