theorem dX0_init_0 : decode cX0_init 0 = .ok (.aload_n 0, 1) := by decide +kernel
theorem dX0_init_1 : decode cX0_init 1 = .ok (.invokespecial 3, 3) := by decide +kernel
theorem dX0_init_4 : decode cX0_init 4 = .ok (.aload_n 0, 1) := by decide +kernel
theorem dX0_init_5 : decode cX0_init 5 = .ok (.iconst 1, 1) := by decide +kernel
theorem dX0_init_6 : decode cX0_init 6 = .ok (.putfield 9, 3) := by decide +kernel
theorem dX0_init_9 : decode cX0_init 9 = .ok (.aload_n 0, 1) := by decide +kernel
theorem dX0_init_10 : decode cX0_init 10 = .ok (.iconst 1, 1) := by decide +kernel
theorem dX0_init_11 : decode cX0_init 11 = .ok (.putfield 15, 3) := by decide +kernel
theorem dX0_init_14 : decode cX0_init 14 = .ok (.aload_n 0, 1) := by decide +kernel
theorem dX0_init_15 : decode cX0_init 15 = .ok (.bipush 8, 2) := by decide +kernel
theorem dX0_init_17 : decode cX0_init 17 = .ok (.newarray .int, 2) := by decide +kernel
theorem dX0_init_19 : decode cX0_init 19 = .ok (.putfield 18, 3) := by decide +kernel
theorem dX0_init_22 : decode cX0_init 22 = .ok (.aload_n 0, 1) := by decide +kernel
theorem dX0_init_23 : decode cX0_init 23 = .ok (.bipush 32, 2) := by decide +kernel
theorem dX0_init_25 : decode cX0_init 25 = .ok (.newarray .int, 2) := by decide +kernel
theorem dX0_init_27 : decode cX0_init 27 = .ok (.putfield 22, 3) := by decide +kernel
theorem dX0_init_30 : decode cX0_init 30 = .ok (.aload_n 0, 1) := by decide +kernel
theorem dX0_init_31 : decode cX0_init 31 = .ok (.iconst 4, 1) := by decide +kernel
theorem dX0_init_32 : decode cX0_init 32 = .ok (.newarray .int, 2) := by decide +kernel
theorem dX0_init_34 : decode cX0_init 34 = .ok (.putfield 25, 3) := by decide +kernel
theorem dX0_init_37 : decode cX0_init 37 = .ok (.return_, 1) := by decide +kernel
theorem dX0_hasPlace_0 : decode cX0_hasPlace 0 = .ok (.iload_n 1, 1) := by decide +kernel
theorem dX0_hasPlace_1 : decode cX0_hasPlace 1 = .ok (.ifCond .lt 27, 3) := by decide +kernel
theorem dX0_hasPlace_4 : decode cX0_hasPlace 4 = .ok (.iload_n 1, 1) := by decide +kernel
theorem dX0_hasPlace_5 : decode cX0_hasPlace 5 = .ok (.aload_n 0, 1) := by decide +kernel
theorem dX0_hasPlace_6 : decode cX0_hasPlace 6 = .ok (.getfield 9, 3) := by decide +kernel
theorem dX0_hasPlace_9 : decode cX0_hasPlace 9 = .ok (.if_icmp .ge 19, 3) := by decide +kernel
theorem dX0_hasPlace_12 : decode cX0_hasPlace 12 = .ok (.iload_n 2, 1) := by decide +kernel
theorem dX0_hasPlace_13 : decode cX0_hasPlace 13 = .ok (.ifCond .lt 15, 3) := by decide +kernel
theorem dX0_hasPlace_16 : decode cX0_hasPlace 16 = .ok (.iload_n 2, 1) := by decide +kernel
theorem dX0_hasPlace_17 : decode cX0_hasPlace 17 = .ok (.aload_n 0, 1) := by decide +kernel
theorem dX0_hasPlace_18 : decode cX0_hasPlace 18 = .ok (.getfield 15, 3) := by decide +kernel
theorem dX0_hasPlace_21 : decode cX0_hasPlace 21 = .ok (.if_icmp .ge 7, 3) := by decide +kernel
theorem dX0_hasPlace_24 : decode cX0_hasPlace 24 = .ok (.iconst 1, 1) := by decide +kernel
theorem dX0_hasPlace_25 : decode cX0_hasPlace 25 = .ok (.goto 4, 3) := by decide +kernel
theorem dX0_hasPlace_28 : decode cX0_hasPlace 28 = .ok (.iconst 0, 1) := by decide +kernel
theorem dX0_hasPlace_29 : decode cX0_hasPlace 29 = .ok (.ireturn, 1) := by decide +kernel
theorem dX0_walkerColumn_0 : decode cX0_walkerColumn 0 = .ok (.iload_n 1, 1) := by decide +kernel
theorem dX0_walkerColumn_1 : decode cX0_walkerColumn 1 = .ok (.ifCond .lt 20, 3) := by decide +kernel
theorem dX0_walkerColumn_4 : decode cX0_walkerColumn 4 = .ok (.iload_n 1, 1) := by decide +kernel
theorem dX0_walkerColumn_5 : decode cX0_walkerColumn 5 = .ok (.aload_n 0, 1) := by decide +kernel
theorem dX0_walkerColumn_6 : decode cX0_walkerColumn 6 = .ok (.getfield 28, 3) := by decide +kernel
theorem dX0_walkerColumn_9 : decode cX0_walkerColumn 9 = .ok (.if_icmp .ge 12, 3) := by decide +kernel
theorem dX0_walkerColumn_12 : decode cX0_walkerColumn 12 = .ok (.aload_n 0, 1) := by decide +kernel
theorem dX0_walkerColumn_13 : decode cX0_walkerColumn 13 = .ok (.getfield 25, 3) := by decide +kernel
theorem dX0_walkerColumn_16 : decode cX0_walkerColumn 16 = .ok (.iload_n 1, 1) := by decide +kernel
theorem dX0_walkerColumn_17 : decode cX0_walkerColumn 17 = .ok (.iaload, 1) := by decide +kernel
theorem dX0_walkerColumn_18 : decode cX0_walkerColumn 18 = .ok (.ifCond .gt 5, 3) := by decide +kernel
theorem dX0_walkerColumn_21 : decode cX0_walkerColumn 21 = .ok (.iconst (-1), 1) := by decide +kernel
theorem dX0_walkerColumn_22 : decode cX0_walkerColumn 22 = .ok (.ireturn, 1) := by decide +kernel
theorem dX0_walkerColumn_23 : decode cX0_walkerColumn 23 = .ok (.aload_n 0, 1) := by decide +kernel
theorem dX0_walkerColumn_24 : decode cX0_walkerColumn 24 = .ok (.getfield 22, 3) := by decide +kernel
theorem dX0_walkerColumn_27 : decode cX0_walkerColumn 27 = .ok (.iload_n 1, 1) := by decide +kernel
theorem dX0_walkerColumn_28 : decode cX0_walkerColumn 28 = .ok (.bipush 8, 2) := by decide +kernel
theorem dX0_walkerColumn_30 : decode cX0_walkerColumn 30 = .ok (.imul, 1) := by decide +kernel
theorem dX0_walkerColumn_31 : decode cX0_walkerColumn 31 = .ok (.iload_n 2, 1) := by decide +kernel
theorem dX0_walkerColumn_32 : decode cX0_walkerColumn 32 = .ok (.aload_n 0, 1) := by decide +kernel
theorem dX0_walkerColumn_33 : decode cX0_walkerColumn 33 = .ok (.getfield 25, 3) := by decide +kernel
theorem dX0_walkerColumn_36 : decode cX0_walkerColumn 36 = .ok (.iload_n 1, 1) := by decide +kernel
theorem dX0_walkerColumn_37 : decode cX0_walkerColumn 37 = .ok (.iaload, 1) := by decide +kernel
theorem dX0_walkerColumn_38 : decode cX0_walkerColumn 38 = .ok (.invokestatic 31, 3) := by decide +kernel
theorem dX0_walkerColumn_41 : decode cX0_walkerColumn 41 = .ok (.iadd, 1) := by decide +kernel
theorem dX0_walkerColumn_42 : decode cX0_walkerColumn 42 = .ok (.iaload, 1) := by decide +kernel
theorem dX0_walkerColumn_43 : decode cX0_walkerColumn 43 = .ok (.ireturn, 1) := by decide +kernel
theorem dX0_walkersIn_0 : decode cX0_walkersIn 0 = .ok (.iconst 0, 1) := by decide +kernel
theorem dX0_walkersIn_1 : decode cX0_walkersIn 1 = .ok (.istore_n 3, 1) := by decide +kernel
theorem dX0_walkersIn_2 : decode cX0_walkersIn 2 = .ok (.iconst 0, 1) := by decide +kernel
theorem dX0_walkersIn_3 : decode cX0_walkersIn 3 = .ok (.istore 4, 2) := by decide +kernel
theorem dX0_walkersIn_5 : decode cX0_walkersIn 5 = .ok (.iload 4, 2) := by decide +kernel
theorem dX0_walkersIn_7 : decode cX0_walkersIn 7 = .ok (.aload_n 0, 1) := by decide +kernel
theorem dX0_walkersIn_8 : decode cX0_walkersIn 8 = .ok (.getfield 28, 3) := by decide +kernel
theorem dX0_walkersIn_11 : decode cX0_walkersIn 11 = .ok (.if_icmp .ge 23, 3) := by decide +kernel
theorem dX0_walkersIn_14 : decode cX0_walkersIn 14 = .ok (.aload_n 0, 1) := by decide +kernel
theorem dX0_walkersIn_15 : decode cX0_walkersIn 15 = .ok (.iload 4, 2) := by decide +kernel
theorem dX0_walkersIn_17 : decode cX0_walkersIn 17 = .ok (.iload_n 2, 1) := by decide +kernel
theorem dX0_walkersIn_18 : decode cX0_walkersIn 18 = .ok (.invokevirtual 37, 3) := by decide +kernel
theorem dX0_walkersIn_21 : decode cX0_walkersIn 21 = .ok (.iload_n 1, 1) := by decide +kernel
theorem dX0_walkersIn_22 : decode cX0_walkersIn 22 = .ok (.if_icmp .ne 6, 3) := by decide +kernel
theorem dX0_walkersIn_25 : decode cX0_walkersIn 25 = .ok (.iinc 3 1, 3) := by decide +kernel
theorem dX0_walkersIn_28 : decode cX0_walkersIn 28 = .ok (.iinc 4 1, 3) := by decide +kernel
theorem dX0_walkersIn_31 : decode cX0_walkersIn 31 = .ok (.goto (-26), 3) := by decide +kernel
theorem dX0_walkersIn_34 : decode cX0_walkersIn 34 = .ok (.iload_n 3, 1) := by decide +kernel
theorem dX0_walkersIn_35 : decode cX0_walkersIn 35 = .ok (.ireturn, 1) := by decide +kernel
theorem dX0_hangTime_0 : decode cX0_hangTime 0 = .ok (.iload_n 1, 1) := by decide +kernel
theorem dX0_hangTime_1 : decode cX0_hangTime 1 = .ok (.istore 7, 2) := by decide +kernel
theorem dX0_hangTime_3 : decode cX0_hangTime 3 = .ok (.aload_n 0, 1) := by decide +kernel
theorem dX0_hangTime_4 : decode cX0_hangTime 4 = .ok (.getfield 40, 3) := by decide +kernel
theorem dX0_hangTime_7 : decode cX0_hangTime 7 = .ok (.ifnull 59, 3) := by decide +kernel
theorem dX0_hangTime_10 : decode cX0_hangTime 10 = .ok (.aload_n 0, 1) := by decide +kernel
theorem dX0_hangTime_11 : decode cX0_hangTime 11 = .ok (.getfield 40, 3) := by decide +kernel
theorem dX0_hangTime_14 : decode cX0_hangTime 14 = .ok (.getfield 44, 3) := by decide +kernel
theorem dX0_hangTime_17 : decode cX0_hangTime 17 = .ok (.astore 8, 2) := by decide +kernel
theorem dX0_hangTime_19 : decode cX0_hangTime 19 = .ok (.aload 8, 2) := by decide +kernel
theorem dX0_hangTime_21 : decode cX0_hangTime 21 = .ok (.iconst 0, 1) := by decide +kernel
theorem dX0_hangTime_22 : decode cX0_hangTime 22 = .ok (.iload_n 1, 1) := by decide +kernel
theorem dX0_hangTime_23 : decode cX0_hangTime 23 = .ok (.iastore, 1) := by decide +kernel
theorem dX0_hangTime_24 : decode cX0_hangTime 24 = .ok (.aload 8, 2) := by decide +kernel
theorem dX0_hangTime_26 : decode cX0_hangTime 26 = .ok (.iconst 1, 1) := by decide +kernel
theorem dX0_hangTime_27 : decode cX0_hangTime 27 = .ok (.iload_n 2, 1) := by decide +kernel
theorem dX0_hangTime_28 : decode cX0_hangTime 28 = .ok (.iastore, 1) := by decide +kernel
theorem dX0_hangTime_29 : decode cX0_hangTime 29 = .ok (.aload 8, 2) := by decide +kernel
theorem dX0_hangTime_31 : decode cX0_hangTime 31 = .ok (.iconst 2, 1) := by decide +kernel
theorem dX0_hangTime_32 : decode cX0_hangTime 32 = .ok (.iload_n 3, 1) := by decide +kernel
theorem dX0_hangTime_33 : decode cX0_hangTime 33 = .ok (.iastore, 1) := by decide +kernel
theorem dX0_hangTime_34 : decode cX0_hangTime 34 = .ok (.aload 8, 2) := by decide +kernel
theorem dX0_hangTime_36 : decode cX0_hangTime 36 = .ok (.iconst 3, 1) := by decide +kernel
theorem dX0_hangTime_37 : decode cX0_hangTime 37 = .ok (.iload 4, 2) := by decide +kernel
theorem dX0_hangTime_39 : decode cX0_hangTime 39 = .ok (.iastore, 1) := by decide +kernel
theorem dX0_hangTime_40 : decode cX0_hangTime 40 = .ok (.aload 8, 2) := by decide +kernel
theorem dX0_hangTime_42 : decode cX0_hangTime 42 = .ok (.iconst 4, 1) := by decide +kernel
theorem dX0_hangTime_43 : decode cX0_hangTime 43 = .ok (.iload 5, 2) := by decide +kernel
theorem dX0_hangTime_45 : decode cX0_hangTime 45 = .ok (.bipush 24, 2) := by decide +kernel
theorem dX0_hangTime_47 : decode cX0_hangTime 47 = .ok (.invokestatic 31, 3) := by decide +kernel
theorem dX0_hangTime_50 : decode cX0_hangTime 50 = .ok (.iastore, 1) := by decide +kernel
theorem dX0_hangTime_51 : decode cX0_hangTime 51 = .ok (.aload 8, 2) := by decide +kernel
theorem dX0_hangTime_53 : decode cX0_hangTime 53 = .ok (.iconst 5, 1) := by decide +kernel
theorem dX0_hangTime_54 : decode cX0_hangTime 54 = .ok (.iload 6, 2) := by decide +kernel
theorem dX0_hangTime_56 : decode cX0_hangTime 56 = .ok (.iastore, 1) := by decide +kernel
theorem dX0_hangTime_57 : decode cX0_hangTime 57 = .ok (.aload_n 0, 1) := by decide +kernel
theorem dX0_hangTime_58 : decode cX0_hangTime 58 = .ok (.getfield 40, 3) := by decide +kernel
theorem dX0_hangTime_61 : decode cX0_hangTime 61 = .ok (.invokevirtual 49, 3) := by decide +kernel
theorem dX0_hangTime_64 : decode cX0_hangTime 64 = .ok (.istore 7, 2) := by decide +kernel
theorem dX0_hangTime_66 : decode cX0_hangTime 66 = .ok (.iconst 0, 1) := by decide +kernel
theorem dX0_hangTime_67 : decode cX0_hangTime 67 = .ok (.sipush 999, 3) := by decide +kernel
theorem dX0_hangTime_70 : decode cX0_hangTime 70 = .ok (.iload 7, 2) := by decide +kernel
theorem dX0_hangTime_72 : decode cX0_hangTime 72 = .ok (.invokestatic 53, 3) := by decide +kernel
theorem dX0_hangTime_75 : decode cX0_hangTime 75 = .ok (.invokestatic 56, 3) := by decide +kernel
theorem dX0_hangTime_78 : decode cX0_hangTime 78 = .ok (.ireturn, 1) := by decide +kernel
theorem dX1_init_0 : decode cX1_init 0 = .ok (.aload_n 0, 1) := by decide +kernel
theorem dX1_init_1 : decode cX1_init 1 = .ok (.invokespecial 3, 3) := by decide +kernel
theorem dX1_init_4 : decode cX1_init 4 = .ok (.aload_n 0, 1) := by decide +kernel
theorem dX1_init_5 : decode cX1_init 5 = .ok (.bipush 8, 2) := by decide +kernel
theorem dX1_init_7 : decode cX1_init 7 = .ok (.newarray .int, 2) := by decide +kernel
theorem dX1_init_9 : decode cX1_init 9 = .ok (.putfield 9, 3) := by decide +kernel
theorem dX1_init_12 : decode cX1_init 12 = .ok (.aload_n 0, 1) := by decide +kernel
theorem dX1_init_13 : decode cX1_init 13 = .ok (.bipush 8, 2) := by decide +kernel
theorem dX1_init_15 : decode cX1_init 15 = .ok (.newarray .int, 2) := by decide +kernel
theorem dX1_init_17 : decode cX1_init 17 = .ok (.putfield 15, 3) := by decide +kernel
theorem dX1_init_20 : decode cX1_init 20 = .ok (.aload_n 0, 1) := by decide +kernel
theorem dX1_init_21 : decode cX1_init 21 = .ok (.new 18, 3) := by decide +kernel
theorem dX1_init_24 : decode cX1_init 24 = .ok (.dup, 1) := by decide +kernel
theorem dX1_init_25 : decode cX1_init 25 = .ok (.aload_n 1, 1) := by decide +kernel
theorem dX1_init_26 : decode cX1_init 26 = .ok (.invokespecial 20, 3) := by decide +kernel
theorem dX1_init_29 : decode cX1_init 29 = .ok (.putfield 23, 3) := by decide +kernel
theorem dX1_init_32 : decode cX1_init 32 = .ok (.return_, 1) := by decide +kernel
theorem dX1_look_0 : decode cX1_look 0 = .ok (.aload_n 0, 1) := by decide +kernel
theorem dX1_look_1 : decode cX1_look 1 = .ok (.getfield 23, 3) := by decide +kernel
theorem dX1_look_4 : decode cX1_look 4 = .ok (.aload_n 1, 1) := by decide +kernel
theorem dX1_look_5 : decode cX1_look 5 = .ok (.invokevirtual 27, 3) := by decide +kernel
theorem dX1_look_8 : decode cX1_look 8 = .ok (.aload_n 0, 1) := by decide +kernel
theorem dX1_look_9 : decode cX1_look 9 = .ok (.aload_n 1, 1) := by decide +kernel
theorem dX1_look_10 : decode cX1_look 10 = .ok (.getfield 31, 3) := by decide +kernel
theorem dX1_look_13 : decode cX1_look 13 = .ok (.putfield 35, 3) := by decide +kernel
theorem dX1_look_16 : decode cX1_look 16 = .ok (.aload_n 0, 1) := by decide +kernel
theorem dX1_look_17 : decode cX1_look 17 = .ok (.iconst 0, 1) := by decide +kernel
theorem dX1_look_18 : decode cX1_look 18 = .ok (.putfield 38, 3) := by decide +kernel
theorem dX1_look_21 : decode cX1_look 21 = .ok (.iconst 0, 1) := by decide +kernel
theorem dX1_look_22 : decode cX1_look 22 = .ok (.istore_n 2, 1) := by decide +kernel
theorem dX1_look_23 : decode cX1_look 23 = .ok (.iload_n 2, 1) := by decide +kernel
theorem dX1_look_24 : decode cX1_look 24 = .ok (.bipush 8, 2) := by decide +kernel
theorem dX1_look_26 : decode cX1_look 26 = .ok (.if_icmp .ge 62, 3) := by decide +kernel
theorem dX1_look_29 : decode cX1_look 29 = .ok (.aload_n 0, 1) := by decide +kernel
theorem dX1_look_30 : decode cX1_look 30 = .ok (.getfield 23, 3) := by decide +kernel
theorem dX1_look_33 : decode cX1_look 33 = .ok (.ldc 41, 2) := by decide +kernel
theorem dX1_look_35 : decode cX1_look 35 = .ok (.invokevirtual 42, 3) := by decide +kernel
theorem dX1_look_38 : decode cX1_look 38 = .ok (.ifCond .ne 6, 3) := by decide +kernel
theorem dX1_look_41 : decode cX1_look 41 = .ok (.goto 47, 3) := by decide +kernel
theorem dX1_look_44 : decode cX1_look 44 = .ok (.aload_n 0, 1) := by decide +kernel
theorem dX1_look_45 : decode cX1_look 45 = .ok (.getfield 9, 3) := by decide +kernel
theorem dX1_look_48 : decode cX1_look 48 = .ok (.iload_n 2, 1) := by decide +kernel
theorem dX1_look_49 : decode cX1_look 49 = .ok (.aload_n 0, 1) := by decide +kernel
theorem dX1_look_50 : decode cX1_look 50 = .ok (.getfield 23, 3) := by decide +kernel
theorem dX1_look_53 : decode cX1_look 53 = .ok (.getfield 31, 3) := by decide +kernel
theorem dX1_look_56 : decode cX1_look 56 = .ok (.aload_n 1, 1) := by decide +kernel
theorem dX1_look_57 : decode cX1_look 57 = .ok (.getfield 31, 3) := by decide +kernel
theorem dX1_look_60 : decode cX1_look 60 = .ok (.isub, 1) := by decide +kernel
theorem dX1_look_61 : decode cX1_look 61 = .ok (.iastore, 1) := by decide +kernel
theorem dX1_look_62 : decode cX1_look 62 = .ok (.aload_n 0, 1) := by decide +kernel
theorem dX1_look_63 : decode cX1_look 63 = .ok (.getfield 15, 3) := by decide +kernel
theorem dX1_look_66 : decode cX1_look 66 = .ok (.iload_n 2, 1) := by decide +kernel
theorem dX1_look_67 : decode cX1_look 67 = .ok (.aload_n 0, 1) := by decide +kernel
theorem dX1_look_68 : decode cX1_look 68 = .ok (.getfield 23, 3) := by decide +kernel
theorem dX1_look_71 : decode cX1_look 71 = .ok (.getfield 46, 3) := by decide +kernel
theorem dX1_look_74 : decode cX1_look 74 = .ok (.iastore, 1) := by decide +kernel
theorem dX1_look_75 : decode cX1_look 75 = .ok (.aload_n 0, 1) := by decide +kernel
theorem dX1_look_76 : decode cX1_look 76 = .ok (.iload_n 2, 1) := by decide +kernel
theorem dX1_look_77 : decode cX1_look 77 = .ok (.iconst 1, 1) := by decide +kernel
theorem dX1_look_78 : decode cX1_look 78 = .ok (.iadd, 1) := by decide +kernel
theorem dX1_look_79 : decode cX1_look 79 = .ok (.putfield 38, 3) := by decide +kernel
theorem dX1_look_82 : decode cX1_look 82 = .ok (.iinc 2 1, 3) := by decide +kernel
theorem dX1_look_85 : decode cX1_look 85 = .ok (.goto (-62), 3) := by decide +kernel
theorem dX1_look_88 : decode cX1_look 88 = .ok (.return_, 1) := by decide +kernel
theorem dX1_fallOf_0 : decode cX1_fallOf 0 = .ok (.iconst 0, 1) := by decide +kernel
theorem dX1_fallOf_1 : decode cX1_fallOf 1 = .ok (.istore_n 2, 1) := by decide +kernel
theorem dX1_fallOf_2 : decode cX1_fallOf 2 = .ok (.iload_n 2, 1) := by decide +kernel
theorem dX1_fallOf_3 : decode cX1_fallOf 3 = .ok (.aload_n 0, 1) := by decide +kernel
theorem dX1_fallOf_4 : decode cX1_fallOf 4 = .ok (.getfield 38, 3) := by decide +kernel
theorem dX1_fallOf_7 : decode cX1_fallOf 7 = .ok (.if_icmp .ge 29, 3) := by decide +kernel
theorem dX1_fallOf_10 : decode cX1_fallOf 10 = .ok (.aload_n 0, 1) := by decide +kernel
theorem dX1_fallOf_11 : decode cX1_fallOf 11 = .ok (.getfield 15, 3) := by decide +kernel
theorem dX1_fallOf_14 : decode cX1_fallOf 14 = .ok (.iload_n 2, 1) := by decide +kernel
theorem dX1_fallOf_15 : decode cX1_fallOf 15 = .ok (.iaload, 1) := by decide +kernel
theorem dX1_fallOf_16 : decode cX1_fallOf 16 = .ok (.iload_n 1, 1) := by decide +kernel
theorem dX1_fallOf_17 : decode cX1_fallOf 17 = .ok (.ishr, 1) := by decide +kernel
theorem dX1_fallOf_18 : decode cX1_fallOf 18 = .ok (.iconst 1, 1) := by decide +kernel
theorem dX1_fallOf_19 : decode cX1_fallOf 19 = .ok (.iand, 1) := by decide +kernel
theorem dX1_fallOf_20 : decode cX1_fallOf 20 = .ok (.ifCond .eq 10, 3) := by decide +kernel
theorem dX1_fallOf_23 : decode cX1_fallOf 23 = .ok (.aload_n 0, 1) := by decide +kernel
theorem dX1_fallOf_24 : decode cX1_fallOf 24 = .ok (.getfield 9, 3) := by decide +kernel
theorem dX1_fallOf_27 : decode cX1_fallOf 27 = .ok (.iload_n 2, 1) := by decide +kernel
theorem dX1_fallOf_28 : decode cX1_fallOf 28 = .ok (.iaload, 1) := by decide +kernel
theorem dX1_fallOf_29 : decode cX1_fallOf 29 = .ok (.ireturn, 1) := by decide +kernel
theorem dX1_fallOf_30 : decode cX1_fallOf 30 = .ok (.iinc 2 1, 3) := by decide +kernel
theorem dX1_fallOf_33 : decode cX1_fallOf 33 = .ok (.goto (-31), 3) := by decide +kernel
theorem dX1_fallOf_36 : decode cX1_fallOf 36 = .ok (.iconst (-1), 1) := by decide +kernel
theorem dX1_fallOf_37 : decode cX1_fallOf 37 = .ok (.ireturn, 1) := by decide +kernel
theorem dX1_weightIn_0 : decode cX1_weightIn 0 = .ok (.iload_n 1, 1) := by decide +kernel
theorem dX1_weightIn_1 : decode cX1_weightIn 1 = .ok (.ifCond .lt 11, 3) := by decide +kernel
theorem dX1_weightIn_4 : decode cX1_weightIn 4 = .ok (.iload_n 1, 1) := by decide +kernel
theorem dX1_weightIn_5 : decode cX1_weightIn 5 = .ok (.aload_n 0, 1) := by decide +kernel
theorem dX1_weightIn_6 : decode cX1_weightIn 6 = .ok (.getfield 38, 3) := by decide +kernel
theorem dX1_weightIn_9 : decode cX1_weightIn 9 = .ok (.if_icmp .lt 5, 3) := by decide +kernel
theorem dX1_weightIn_12 : decode cX1_weightIn 12 = .ok (.iconst 0, 1) := by decide +kernel
theorem dX1_weightIn_13 : decode cX1_weightIn 13 = .ok (.ireturn, 1) := by decide +kernel
theorem dX1_weightIn_14 : decode cX1_weightIn 14 = .ok (.aload_n 0, 1) := by decide +kernel
theorem dX1_weightIn_15 : decode cX1_weightIn 15 = .ok (.getfield 23, 3) := by decide +kernel
theorem dX1_weightIn_18 : decode cX1_weightIn 18 = .ok (.aload_n 0, 1) := by decide +kernel
theorem dX1_weightIn_19 : decode cX1_weightIn 19 = .ok (.getfield 15, 3) := by decide +kernel
theorem dX1_weightIn_22 : decode cX1_weightIn 22 = .ok (.iload_n 1, 1) := by decide +kernel
theorem dX1_weightIn_23 : decode cX1_weightIn 23 = .ok (.iaload, 1) := by decide +kernel
theorem dX1_weightIn_24 : decode cX1_weightIn 24 = .ok (.iload_n 2, 1) := by decide +kernel
theorem dX1_weightIn_25 : decode cX1_weightIn 25 = .ok (.invokevirtual 48, 3) := by decide +kernel
theorem dX1_weightIn_28 : decode cX1_weightIn 28 = .ok (.ireturn, 1) := by decide +kernel
theorem dX1_hurtOf_0 : decode cX1_hurtOf 0 = .ok (.iconst 0, 1) := by decide +kernel
theorem dX1_hurtOf_1 : decode cX1_hurtOf 1 = .ok (.istore 4, 2) := by decide +kernel
theorem dX1_hurtOf_3 : decode cX1_hurtOf 3 = .ok (.iconst 0, 1) := by decide +kernel
theorem dX1_hurtOf_4 : decode cX1_hurtOf 4 = .ok (.istore 5, 2) := by decide +kernel
theorem dX1_hurtOf_6 : decode cX1_hurtOf 6 = .ok (.iload 5, 2) := by decide +kernel
theorem dX1_hurtOf_8 : decode cX1_hurtOf 8 = .ok (.aload_n 0, 1) := by decide +kernel
theorem dX1_hurtOf_9 : decode cX1_hurtOf 9 = .ok (.getfield 38, 3) := by decide +kernel
theorem dX1_hurtOf_12 : decode cX1_hurtOf 12 = .ok (.if_icmp .ge 60, 3) := by decide +kernel
theorem dX1_hurtOf_15 : decode cX1_hurtOf 15 = .ok (.aload_n 0, 1) := by decide +kernel
theorem dX1_hurtOf_16 : decode cX1_hurtOf 16 = .ok (.getfield 23, 3) := by decide +kernel
theorem dX1_hurtOf_19 : decode cX1_hurtOf 19 = .ok (.getfield 52, 3) := by decide +kernel
theorem dX1_hurtOf_22 : decode cX1_hurtOf 22 = .ok (.iload_n 1, 1) := by decide +kernel
theorem dX1_hurtOf_23 : decode cX1_hurtOf 23 = .ok (.aload_n 0, 1) := by decide +kernel
theorem dX1_hurtOf_24 : decode cX1_hurtOf 24 = .ok (.getfield 35, 3) := by decide +kernel
theorem dX1_hurtOf_27 : decode cX1_hurtOf 27 = .ok (.aload_n 0, 1) := by decide +kernel
theorem dX1_hurtOf_28 : decode cX1_hurtOf 28 = .ok (.getfield 9, 3) := by decide +kernel
theorem dX1_hurtOf_31 : decode cX1_hurtOf 31 = .ok (.iload 5, 2) := by decide +kernel
theorem dX1_hurtOf_33 : decode cX1_hurtOf 33 = .ok (.iaload, 1) := by decide +kernel
theorem dX1_hurtOf_34 : decode cX1_hurtOf 34 = .ok (.iadd, 1) := by decide +kernel
theorem dX1_hurtOf_35 : decode cX1_hurtOf 35 = .ok (.iload_n 2, 1) := by decide +kernel
theorem dX1_hurtOf_36 : decode cX1_hurtOf 36 = .ok (.iadd, 1) := by decide +kernel
theorem dX1_hurtOf_37 : decode cX1_hurtOf 37 = .ok (.invokevirtual 56, 3) := by decide +kernel
theorem dX1_hurtOf_40 : decode cX1_hurtOf 40 = .ok (.istore 6, 2) := by decide +kernel
theorem dX1_hurtOf_42 : decode cX1_hurtOf 42 = .ok (.iload_n 3, 1) := by decide +kernel
theorem dX1_hurtOf_43 : decode cX1_hurtOf 43 = .ok (.iconst (-1), 1) := by decide +kernel
theorem dX1_hurtOf_44 : decode cX1_hurtOf 44 = .ok (.if_icmp .eq 9, 3) := by decide +kernel
theorem dX1_hurtOf_47 : decode cX1_hurtOf 47 = .ok (.iload_n 3, 1) := by decide +kernel
theorem dX1_hurtOf_48 : decode cX1_hurtOf 48 = .ok (.iload 6, 2) := by decide +kernel
theorem dX1_hurtOf_50 : decode cX1_hurtOf 50 = .ok (.if_icmp .ne 16, 3) := by decide +kernel
theorem dX1_hurtOf_53 : decode cX1_hurtOf 53 = .ok (.iload 4, 2) := by decide +kernel
theorem dX1_hurtOf_55 : decode cX1_hurtOf 55 = .ok (.aload_n 0, 1) := by decide +kernel
theorem dX1_hurtOf_56 : decode cX1_hurtOf 56 = .ok (.iload 5, 2) := by decide +kernel
theorem dX1_hurtOf_58 : decode cX1_hurtOf 58 = .ok (.iload 6, 2) := by decide +kernel
theorem dX1_hurtOf_60 : decode cX1_hurtOf 60 = .ok (.invokevirtual 61, 3) := by decide +kernel
theorem dX1_hurtOf_63 : decode cX1_hurtOf 63 = .ok (.iadd, 1) := by decide +kernel
theorem dX1_hurtOf_64 : decode cX1_hurtOf 64 = .ok (.istore 4, 2) := by decide +kernel
theorem dX1_hurtOf_66 : decode cX1_hurtOf 66 = .ok (.iinc 5 1, 3) := by decide +kernel
theorem dX1_hurtOf_69 : decode cX1_hurtOf 69 = .ok (.goto (-63), 3) := by decide +kernel
theorem dX1_hurtOf_72 : decode cX1_hurtOf 72 = .ok (.iload 4, 2) := by decide +kernel
theorem dX1_hurtOf_74 : decode cX1_hurtOf 74 = .ok (.ireturn, 1) := by decide +kernel
theorem dX1_fallAfter_0 : decode cX1_fallAfter 0 = .ok (.aload_n 0, 1) := by decide +kernel
theorem dX1_fallAfter_1 : decode cX1_fallAfter 1 = .ok (.getfield 23, 3) := by decide +kernel
theorem dX1_fallAfter_4 : decode cX1_fallAfter 4 = .ok (.aload_n 1, 1) := by decide +kernel
theorem dX1_fallAfter_5 : decode cX1_fallAfter 5 = .ok (.invokevirtual 27, 3) := by decide +kernel
theorem dX1_fallAfter_8 : decode cX1_fallAfter 8 = .ok (.aload_n 1, 1) := by decide +kernel
theorem dX1_fallAfter_9 : decode cX1_fallAfter 9 = .ok (.getfield 31, 3) := by decide +kernel
theorem dX1_fallAfter_12 : decode cX1_fallAfter 12 = .ok (.iload 5, 2) := by decide +kernel
theorem dX1_fallAfter_14 : decode cX1_fallAfter 14 = .ok (.iadd, 1) := by decide +kernel
theorem dX1_fallAfter_15 : decode cX1_fallAfter 15 = .ok (.istore 6, 2) := by decide +kernel
theorem dX1_fallAfter_17 : decode cX1_fallAfter 17 = .ok (.iconst 0, 1) := by decide +kernel
theorem dX1_fallAfter_18 : decode cX1_fallAfter 18 = .ok (.istore 7, 2) := by decide +kernel
theorem dX1_fallAfter_20 : decode cX1_fallAfter 20 = .ok (.iload 7, 2) := by decide +kernel
theorem dX1_fallAfter_22 : decode cX1_fallAfter 22 = .ok (.bipush 8, 2) := by decide +kernel
theorem dX1_fallAfter_24 : decode cX1_fallAfter 24 = .ok (.if_icmp .ge 24, 3) := by decide +kernel
theorem dX1_fallAfter_27 : decode cX1_fallAfter 27 = .ok (.aload_n 0, 1) := by decide +kernel
theorem dX1_fallAfter_28 : decode cX1_fallAfter 28 = .ok (.getfield 23, 3) := by decide +kernel
theorem dX1_fallAfter_31 : decode cX1_fallAfter 31 = .ok (.iload 6, 2) := by decide +kernel
theorem dX1_fallAfter_33 : decode cX1_fallAfter 33 = .ok (.invokevirtual 42, 3) := by decide +kernel
theorem dX1_fallAfter_36 : decode cX1_fallAfter 36 = .ok (.ifCond .ne 6, 3) := by decide +kernel
theorem dX1_fallAfter_39 : decode cX1_fallAfter 39 = .ok (.goto 9, 3) := by decide +kernel
theorem dX1_fallAfter_42 : decode cX1_fallAfter 42 = .ok (.iinc 7 1, 3) := by decide +kernel
theorem dX1_fallAfter_45 : decode cX1_fallAfter 45 = .ok (.goto (-25), 3) := by decide +kernel
theorem dX1_fallAfter_48 : decode cX1_fallAfter 48 = .ok (.aload_n 0, 1) := by decide +kernel
theorem dX1_fallAfter_49 : decode cX1_fallAfter 49 = .ok (.getfield 23, 3) := by decide +kernel
theorem dX1_fallAfter_52 : decode cX1_fallAfter 52 = .ok (.iload 6, 2) := by decide +kernel
theorem dX1_fallAfter_54 : decode cX1_fallAfter 54 = .ok (.putfield 31, 3) := by decide +kernel
theorem dX1_fallAfter_57 : decode cX1_fallAfter 57 = .ok (.aload_n 0, 1) := by decide +kernel
theorem dX1_fallAfter_58 : decode cX1_fallAfter 58 = .ok (.getfield 23, 3) := by decide +kernel
theorem dX1_fallAfter_61 : decode cX1_fallAfter 61 = .ok (.iload_n 2, 1) := by decide +kernel
theorem dX1_fallAfter_62 : decode cX1_fallAfter 62 = .ok (.iload_n 3, 1) := by decide +kernel
theorem dX1_fallAfter_63 : decode cX1_fallAfter 63 = .ok (.iload 4, 2) := by decide +kernel
theorem dX1_fallAfter_65 : decode cX1_fallAfter 65 = .ok (.invokevirtual 64, 3) := by decide +kernel
theorem dX1_fallAfter_68 : decode cX1_fallAfter 68 = .ok (.ifCond .eq 5, 3) := by decide +kernel
theorem dX1_fallAfter_71 : decode cX1_fallAfter 71 = .ok (.iconst (-1), 1) := by decide +kernel
theorem dX1_fallAfter_72 : decode cX1_fallAfter 72 = .ok (.ireturn, 1) := by decide +kernel
theorem dX1_fallAfter_73 : decode cX1_fallAfter 73 = .ok (.aload_n 0, 1) := by decide +kernel
theorem dX1_fallAfter_74 : decode cX1_fallAfter 74 = .ok (.getfield 23, 3) := by decide +kernel
theorem dX1_fallAfter_77 : decode cX1_fallAfter 77 = .ok (.iload_n 2, 1) := by decide +kernel
theorem dX1_fallAfter_78 : decode cX1_fallAfter 78 = .ok (.iload_n 3, 1) := by decide +kernel
theorem dX1_fallAfter_79 : decode cX1_fallAfter 79 = .ok (.iload 4, 2) := by decide +kernel
theorem dX1_fallAfter_81 : decode cX1_fallAfter 81 = .ok (.invokevirtual 68, 3) := by decide +kernel
theorem dX1_fallAfter_84 : decode cX1_fallAfter 84 = .ok (.pop, 1) := by decide +kernel
theorem dX1_fallAfter_85 : decode cX1_fallAfter 85 = .ok (.iconst 0, 1) := by decide +kernel
theorem dX1_fallAfter_86 : decode cX1_fallAfter 86 = .ok (.istore 7, 2) := by decide +kernel
theorem dX1_fallAfter_88 : decode cX1_fallAfter 88 = .ok (.iload 7, 2) := by decide +kernel
theorem dX1_fallAfter_90 : decode cX1_fallAfter 90 = .ok (.bipush 8, 2) := by decide +kernel
theorem dX1_fallAfter_92 : decode cX1_fallAfter 92 = .ok (.if_icmp .ge 32, 3) := by decide +kernel
theorem dX1_fallAfter_95 : decode cX1_fallAfter 95 = .ok (.aload_n 0, 1) := by decide +kernel
theorem dX1_fallAfter_96 : decode cX1_fallAfter 96 = .ok (.getfield 23, 3) := by decide +kernel
theorem dX1_fallAfter_99 : decode cX1_fallAfter 99 = .ok (.getfield 71, 3) := by decide +kernel
theorem dX1_fallAfter_102 : decode cX1_fallAfter 102 = .ok (.iload_n 2, 1) := by decide +kernel
theorem dX1_fallAfter_103 : decode cX1_fallAfter 103 = .ok (.iaload, 1) := by decide +kernel
theorem dX1_fallAfter_104 : decode cX1_fallAfter 104 = .ok (.iconst 1, 1) := by decide +kernel
theorem dX1_fallAfter_105 : decode cX1_fallAfter 105 = .ok (.if_icmp .ne 19, 3) := by decide +kernel
theorem dX1_fallAfter_108 : decode cX1_fallAfter 108 = .ok (.aload_n 0, 1) := by decide +kernel
theorem dX1_fallAfter_109 : decode cX1_fallAfter 109 = .ok (.getfield 23, 3) := by decide +kernel
theorem dX1_fallAfter_112 : decode cX1_fallAfter 112 = .ok (.ldc 41, 2) := by decide +kernel
theorem dX1_fallAfter_114 : decode cX1_fallAfter 114 = .ok (.invokevirtual 42, 3) := by decide +kernel
theorem dX1_fallAfter_117 : decode cX1_fallAfter 117 = .ok (.pop, 1) := by decide +kernel
theorem dX1_fallAfter_118 : decode cX1_fallAfter 118 = .ok (.iinc 7 1, 3) := by decide +kernel
theorem dX1_fallAfter_121 : decode cX1_fallAfter 121 = .ok (.goto (-33), 3) := by decide +kernel
theorem dX1_fallAfter_124 : decode cX1_fallAfter 124 = .ok (.aload_n 0, 1) := by decide +kernel
theorem dX1_fallAfter_125 : decode cX1_fallAfter 125 = .ok (.getfield 23, 3) := by decide +kernel
theorem dX1_fallAfter_128 : decode cX1_fallAfter 128 = .ok (.getfield 31, 3) := by decide +kernel
theorem dX1_fallAfter_131 : decode cX1_fallAfter 131 = .ok (.aload_n 1, 1) := by decide +kernel
theorem dX1_fallAfter_132 : decode cX1_fallAfter 132 = .ok (.getfield 31, 3) := by decide +kernel
theorem dX1_fallAfter_135 : decode cX1_fallAfter 135 = .ok (.isub, 1) := by decide +kernel
theorem dX1_fallAfter_136 : decode cX1_fallAfter 136 = .ok (.ireturn, 1) := by decide +kernel
theorem dX2_init_0 : decode cX2_init 0 = .ok (.aload_n 0, 1) := by decide +kernel
theorem dX2_init_1 : decode cX2_init 1 = .ok (.invokespecial 3, 3) := by decide +kernel
theorem dX2_init_4 : decode cX2_init 4 = .ok (.aload_n 0, 1) := by decide +kernel
theorem dX2_init_5 : decode cX2_init 5 = .ok (.bipush 10, 2) := by decide +kernel
theorem dX2_init_7 : decode cX2_init 7 = .ok (.anewarray 9, 3) := by decide +kernel
theorem dX2_init_10 : decode cX2_init 10 = .ok (.putfield 11, 3) := by decide +kernel
theorem dX2_init_13 : decode cX2_init 13 = .ok (.iconst 0, 1) := by decide +kernel
theorem dX2_init_14 : decode cX2_init 14 = .ok (.istore_n 2, 1) := by decide +kernel
theorem dX2_init_15 : decode cX2_init 15 = .ok (.iload_n 2, 1) := by decide +kernel
theorem dX2_init_16 : decode cX2_init 16 = .ok (.bipush 10, 2) := by decide +kernel
theorem dX2_init_18 : decode cX2_init 18 = .ok (.if_icmp .ge 23, 3) := by decide +kernel
theorem dX2_init_21 : decode cX2_init 21 = .ok (.aload_n 0, 1) := by decide +kernel
theorem dX2_init_22 : decode cX2_init 22 = .ok (.getfield 11, 3) := by decide +kernel
theorem dX2_init_25 : decode cX2_init 25 = .ok (.iload_n 2, 1) := by decide +kernel
theorem dX2_init_26 : decode cX2_init 26 = .ok (.new 9, 3) := by decide +kernel
theorem dX2_init_29 : decode cX2_init 29 = .ok (.dup, 1) := by decide +kernel
theorem dX2_init_30 : decode cX2_init 30 = .ok (.aload_n 1, 1) := by decide +kernel
theorem dX2_init_31 : decode cX2_init 31 = .ok (.invokespecial 17, 3) := by decide +kernel
theorem dX2_init_34 : decode cX2_init 34 = .ok (.aastore, 1) := by decide +kernel
theorem dX2_init_35 : decode cX2_init 35 = .ok (.iinc 2 1, 3) := by decide +kernel
theorem dX2_init_38 : decode cX2_init 38 = .ok (.goto (-23), 3) := by decide +kernel
theorem dX2_init_41 : decode cX2_init 41 = .ok (.return_, 1) := by decide +kernel
theorem dX2_forget_0 : decode cX2_forget 0 = .ok (.aload_n 0, 1) := by decide +kernel
theorem dX2_forget_1 : decode cX2_forget 1 = .ok (.iconst 0, 1) := by decide +kernel
theorem dX2_forget_2 : decode cX2_forget 2 = .ok (.putfield 20, 3) := by decide +kernel
theorem dX2_forget_5 : decode cX2_forget 5 = .ok (.aload_n 0, 1) := by decide +kernel
theorem dX2_forget_6 : decode cX2_forget 6 = .ok (.iconst 0, 1) := by decide +kernel
theorem dX2_forget_7 : decode cX2_forget 7 = .ok (.putfield 24, 3) := by decide +kernel
theorem dX2_forget_10 : decode cX2_forget 10 = .ok (.return_, 1) := by decide +kernel
theorem dX2_keep_0 : decode cX2_keep 0 = .ok (.aload_n 0, 1) := by decide +kernel
theorem dX2_keep_1 : decode cX2_keep 1 = .ok (.getfield 11, 3) := by decide +kernel
theorem dX2_keep_4 : decode cX2_keep 4 = .ok (.aload_n 0, 1) := by decide +kernel
theorem dX2_keep_5 : decode cX2_keep 5 = .ok (.getfield 20, 3) := by decide +kernel
theorem dX2_keep_8 : decode cX2_keep 8 = .ok (.aload_n 0, 1) := by decide +kernel
theorem dX2_keep_9 : decode cX2_keep 9 = .ok (.getfield 24, 3) := by decide +kernel
theorem dX2_keep_12 : decode cX2_keep 12 = .ok (.iadd, 1) := by decide +kernel
theorem dX2_keep_13 : decode cX2_keep 13 = .ok (.bipush 10, 2) := by decide +kernel
theorem dX2_keep_15 : decode cX2_keep 15 = .ok (.irem, 1) := by decide +kernel
theorem dX2_keep_16 : decode cX2_keep 16 = .ok (.aaload, 1) := by decide +kernel
theorem dX2_keep_17 : decode cX2_keep 17 = .ok (.aload_n 1, 1) := by decide +kernel
theorem dX2_keep_18 : decode cX2_keep 18 = .ok (.invokevirtual 27, 3) := by decide +kernel
theorem dX2_keep_21 : decode cX2_keep 21 = .ok (.aload_n 0, 1) := by decide +kernel
theorem dX2_keep_22 : decode cX2_keep 22 = .ok (.getfield 24, 3) := by decide +kernel
theorem dX2_keep_25 : decode cX2_keep 25 = .ok (.bipush 10, 2) := by decide +kernel
theorem dX2_keep_27 : decode cX2_keep 27 = .ok (.if_icmp .ge 16, 3) := by decide +kernel
theorem dX2_keep_30 : decode cX2_keep 30 = .ok (.aload_n 0, 1) := by decide +kernel
theorem dX2_keep_31 : decode cX2_keep 31 = .ok (.dup, 1) := by decide +kernel
theorem dX2_keep_32 : decode cX2_keep 32 = .ok (.getfield 24, 3) := by decide +kernel
theorem dX2_keep_35 : decode cX2_keep 35 = .ok (.iconst 1, 1) := by decide +kernel
theorem dX2_keep_36 : decode cX2_keep 36 = .ok (.iadd, 1) := by decide +kernel
theorem dX2_keep_37 : decode cX2_keep 37 = .ok (.putfield 24, 3) := by decide +kernel
theorem dX2_keep_40 : decode cX2_keep 40 = .ok (.goto 16, 3) := by decide +kernel
theorem dX2_keep_43 : decode cX2_keep 43 = .ok (.aload_n 0, 1) := by decide +kernel
theorem dX2_keep_44 : decode cX2_keep 44 = .ok (.aload_n 0, 1) := by decide +kernel
theorem dX2_keep_45 : decode cX2_keep 45 = .ok (.getfield 20, 3) := by decide +kernel
theorem dX2_keep_48 : decode cX2_keep 48 = .ok (.iconst 1, 1) := by decide +kernel
theorem dX2_keep_49 : decode cX2_keep 49 = .ok (.iadd, 1) := by decide +kernel
theorem dX2_keep_50 : decode cX2_keep 50 = .ok (.bipush 10, 2) := by decide +kernel
theorem dX2_keep_52 : decode cX2_keep 52 = .ok (.irem, 1) := by decide +kernel
theorem dX2_keep_53 : decode cX2_keep 53 = .ok (.putfield 20, 3) := by decide +kernel
theorem dX2_keep_56 : decode cX2_keep 56 = .ok (.return_, 1) := by decide +kernel
theorem dX2_goBack_0 : decode cX2_goBack 0 = .ok (.iload_n 1, 1) := by decide +kernel
theorem dX2_goBack_1 : decode cX2_goBack 1 = .ok (.iconst 1, 1) := by decide +kernel
theorem dX2_goBack_2 : decode cX2_goBack 2 = .ok (.if_icmp .lt 11, 3) := by decide +kernel
theorem dX2_goBack_5 : decode cX2_goBack 5 = .ok (.iload_n 1, 1) := by decide +kernel
theorem dX2_goBack_6 : decode cX2_goBack 6 = .ok (.aload_n 0, 1) := by decide +kernel
theorem dX2_goBack_7 : decode cX2_goBack 7 = .ok (.getfield 24, 3) := by decide +kernel
theorem dX2_goBack_10 : decode cX2_goBack 10 = .ok (.if_icmp .le 4, 3) := by decide +kernel
theorem dX2_goBack_13 : decode cX2_goBack 13 = .ok (.return_, 1) := by decide +kernel
theorem dX2_goBack_14 : decode cX2_goBack 14 = .ok (.aload_n 0, 1) := by decide +kernel
theorem dX2_goBack_15 : decode cX2_goBack 15 = .ok (.dup, 1) := by decide +kernel
theorem dX2_goBack_16 : decode cX2_goBack 16 = .ok (.getfield 24, 3) := by decide +kernel
theorem dX2_goBack_19 : decode cX2_goBack 19 = .ok (.iload_n 1, 1) := by decide +kernel
theorem dX2_goBack_20 : decode cX2_goBack 20 = .ok (.isub, 1) := by decide +kernel
theorem dX2_goBack_21 : decode cX2_goBack 21 = .ok (.putfield 24, 3) := by decide +kernel
theorem dX2_goBack_24 : decode cX2_goBack 24 = .ok (.aload_n 2, 1) := by decide +kernel
theorem dX2_goBack_25 : decode cX2_goBack 25 = .ok (.aload_n 0, 1) := by decide +kernel
theorem dX2_goBack_26 : decode cX2_goBack 26 = .ok (.getfield 11, 3) := by decide +kernel
theorem dX2_goBack_29 : decode cX2_goBack 29 = .ok (.aload_n 0, 1) := by decide +kernel
theorem dX2_goBack_30 : decode cX2_goBack 30 = .ok (.getfield 20, 3) := by decide +kernel
theorem dX2_goBack_33 : decode cX2_goBack 33 = .ok (.aload_n 0, 1) := by decide +kernel
theorem dX2_goBack_34 : decode cX2_goBack 34 = .ok (.getfield 24, 3) := by decide +kernel
theorem dX2_goBack_37 : decode cX2_goBack 37 = .ok (.iadd, 1) := by decide +kernel
theorem dX2_goBack_38 : decode cX2_goBack 38 = .ok (.bipush 10, 2) := by decide +kernel
theorem dX2_goBack_40 : decode cX2_goBack 40 = .ok (.irem, 1) := by decide +kernel
theorem dX2_goBack_41 : decode cX2_goBack 41 = .ok (.aaload, 1) := by decide +kernel
theorem dX2_goBack_42 : decode cX2_goBack 42 = .ok (.invokevirtual 27, 3) := by decide +kernel
theorem dX2_goBack_45 : decode cX2_goBack 45 = .ok (.return_, 1) := by decide +kernel
theorem dX2_copyFrom_0 : decode cX2_copyFrom 0 = .ok (.aload_n 0, 1) := by decide +kernel
theorem dX2_copyFrom_1 : decode cX2_copyFrom 1 = .ok (.aload_n 1, 1) := by decide +kernel
theorem dX2_copyFrom_2 : decode cX2_copyFrom 2 = .ok (.getfield 20, 3) := by decide +kernel
theorem dX2_copyFrom_5 : decode cX2_copyFrom 5 = .ok (.putfield 20, 3) := by decide +kernel
theorem dX2_copyFrom_8 : decode cX2_copyFrom 8 = .ok (.aload_n 0, 1) := by decide +kernel
theorem dX2_copyFrom_9 : decode cX2_copyFrom 9 = .ok (.aload_n 1, 1) := by decide +kernel
theorem dX2_copyFrom_10 : decode cX2_copyFrom 10 = .ok (.getfield 24, 3) := by decide +kernel
theorem dX2_copyFrom_13 : decode cX2_copyFrom 13 = .ok (.putfield 24, 3) := by decide +kernel
theorem dX2_copyFrom_16 : decode cX2_copyFrom 16 = .ok (.iconst 0, 1) := by decide +kernel
theorem dX2_copyFrom_17 : decode cX2_copyFrom 17 = .ok (.istore_n 2, 1) := by decide +kernel
theorem dX2_copyFrom_18 : decode cX2_copyFrom 18 = .ok (.iload_n 2, 1) := by decide +kernel
theorem dX2_copyFrom_19 : decode cX2_copyFrom 19 = .ok (.bipush 10, 2) := by decide +kernel
theorem dX2_copyFrom_21 : decode cX2_copyFrom 21 = .ok (.if_icmp .ge 24, 3) := by decide +kernel
theorem dX2_copyFrom_24 : decode cX2_copyFrom 24 = .ok (.aload_n 0, 1) := by decide +kernel
theorem dX2_copyFrom_25 : decode cX2_copyFrom 25 = .ok (.getfield 11, 3) := by decide +kernel
theorem dX2_copyFrom_28 : decode cX2_copyFrom 28 = .ok (.iload_n 2, 1) := by decide +kernel
theorem dX2_copyFrom_29 : decode cX2_copyFrom 29 = .ok (.aaload, 1) := by decide +kernel
theorem dX2_copyFrom_30 : decode cX2_copyFrom 30 = .ok (.aload_n 1, 1) := by decide +kernel
theorem dX2_copyFrom_31 : decode cX2_copyFrom 31 = .ok (.getfield 11, 3) := by decide +kernel
theorem dX2_copyFrom_34 : decode cX2_copyFrom 34 = .ok (.iload_n 2, 1) := by decide +kernel
theorem dX2_copyFrom_35 : decode cX2_copyFrom 35 = .ok (.aaload, 1) := by decide +kernel
theorem dX2_copyFrom_36 : decode cX2_copyFrom 36 = .ok (.invokevirtual 27, 3) := by decide +kernel
theorem dX2_copyFrom_39 : decode cX2_copyFrom 39 = .ok (.iinc 2 1, 3) := by decide +kernel
theorem dX2_copyFrom_42 : decode cX2_copyFrom 42 = .ok (.goto (-24), 3) := by decide +kernel
theorem dX2_copyFrom_45 : decode cX2_copyFrom 45 = .ok (.return_, 1) := by decide +kernel
theorem dX3_init_0 : decode cX3_init 0 = .ok (.aload_n 0, 1) := by decide +kernel
theorem dX3_init_1 : decode cX3_init 1 = .ok (.invokespecial 1, 3) := by decide +kernel
theorem dX3_init_4 : decode cX3_init 4 = .ok (.aload_n 0, 1) := by decide +kernel
theorem dX3_init_5 : decode cX3_init 5 = .ok (.new 7, 3) := by decide +kernel
theorem dX3_init_8 : decode cX3_init 8 = .ok (.dup, 1) := by decide +kernel
theorem dX3_init_9 : decode cX3_init 9 = .ok (.aload_n 1, 1) := by decide +kernel
theorem dX3_init_10 : decode cX3_init 10 = .ok (.invokespecial 9, 3) := by decide +kernel
theorem dX3_init_13 : decode cX3_init 13 = .ok (.putfield 12, 3) := by decide +kernel
theorem dX3_init_16 : decode cX3_init 16 = .ok (.aload_n 0, 1) := by decide +kernel
theorem dX3_init_17 : decode cX3_init 17 = .ok (.new 18, 3) := by decide +kernel
theorem dX3_init_20 : decode cX3_init 20 = .ok (.dup, 1) := by decide +kernel
theorem dX3_init_21 : decode cX3_init 21 = .ok (.aload_n 1, 1) := by decide +kernel
theorem dX3_init_22 : decode cX3_init 22 = .ok (.invokespecial 20, 3) := by decide +kernel
theorem dX3_init_25 : decode cX3_init 25 = .ok (.putfield 21, 3) := by decide +kernel
theorem dX3_init_28 : decode cX3_init 28 = .ok (.return_, 1) := by decide +kernel
theorem dX4_init_0 : decode cX4_init 0 = .ok (.aload_n 0, 1) := by decide +kernel
theorem dX4_init_1 : decode cX4_init 1 = .ok (.invokespecial 1, 3) := by decide +kernel
theorem dX4_init_4 : decode cX4_init 4 = .ok (.aload_n 0, 1) := by decide +kernel
theorem dX4_init_5 : decode cX4_init 5 = .ok (.bipush 6, 2) := by decide +kernel
theorem dX4_init_7 : decode cX4_init 7 = .ok (.newarray .int, 2) := by decide +kernel
theorem dX4_init_9 : decode cX4_init 9 = .ok (.putfield 9, 3) := by decide +kernel
theorem dX4_init_12 : decode cX4_init 12 = .ok (.aload_n 0, 1) := by decide +kernel
theorem dX4_init_13 : decode cX4_init 13 = .ok (.bipush 32, 2) := by decide +kernel
theorem dX4_init_15 : decode cX4_init 15 = .ok (.newarray .int, 2) := by decide +kernel
theorem dX4_init_17 : decode cX4_init 17 = .ok (.putfield 13, 3) := by decide +kernel
theorem dX4_init_20 : decode cX4_init 20 = .ok (.aload_n 0, 1) := by decide +kernel
theorem dX4_init_21 : decode cX4_init 21 = .ok (.iconst 0, 1) := by decide +kernel
theorem dX4_init_22 : decode cX4_init 22 = .ok (.iload_n 2, 1) := by decide +kernel
theorem dX4_init_23 : decode cX4_init 23 = .ok (.aload_n 1, 1) := by decide +kernel
theorem dX4_init_24 : decode cX4_init 24 = .ok (.arraylength, 1) := by decide +kernel
theorem dX4_init_25 : decode cX4_init 25 = .ok (.invokestatic 16, 3) := by decide +kernel
theorem dX4_init_28 : decode cX4_init 28 = .ok (.invokestatic 22, 3) := by decide +kernel
theorem dX4_init_31 : decode cX4_init 31 = .ok (.newarray .int, 2) := by decide +kernel
theorem dX4_init_33 : decode cX4_init 33 = .ok (.putfield 25, 3) := by decide +kernel
theorem dX4_init_36 : decode cX4_init 36 = .ok (.aload_n 1, 1) := by decide +kernel
theorem dX4_init_37 : decode cX4_init 37 = .ok (.iconst 0, 1) := by decide +kernel
theorem dX4_init_38 : decode cX4_init 38 = .ok (.aload_n 0, 1) := by decide +kernel
theorem dX4_init_39 : decode cX4_init 39 = .ok (.getfield 25, 3) := by decide +kernel
theorem dX4_init_42 : decode cX4_init 42 = .ok (.iconst 0, 1) := by decide +kernel
theorem dX4_init_43 : decode cX4_init 43 = .ok (.aload_n 0, 1) := by decide +kernel
theorem dX4_init_44 : decode cX4_init 44 = .ok (.getfield 25, 3) := by decide +kernel
theorem dX4_init_47 : decode cX4_init 47 = .ok (.arraylength, 1) := by decide +kernel
theorem dX4_init_48 : decode cX4_init 48 = .ok (.invokestatic 28, 3) := by decide +kernel
theorem dX4_init_51 : decode cX4_init 51 = .ok (.return_, 1) := by decide +kernel
theorem dX4_value_0 : decode cX4_value 0 = .ok (.iconst 0, 1) := by decide +kernel
theorem dX4_value_1 : decode cX4_value 1 = .ok (.istore_n 1, 1) := by decide +kernel
theorem dX4_value_2 : decode cX4_value 2 = .ok (.iconst 0, 1) := by decide +kernel
theorem dX4_value_3 : decode cX4_value 3 = .ok (.istore_n 2, 1) := by decide +kernel
theorem dX4_value_4 : decode cX4_value 4 = .ok (.iload_n 2, 1) := by decide +kernel
theorem dX4_value_5 : decode cX4_value 5 = .ok (.aload_n 0, 1) := by decide +kernel
theorem dX4_value_6 : decode cX4_value 6 = .ok (.getfield 25, 3) := by decide +kernel
theorem dX4_value_9 : decode cX4_value 9 = .ok (.arraylength, 1) := by decide +kernel
theorem dX4_value_10 : decode cX4_value 10 = .ok (.if_icmp .ge 152, 3) := by decide +kernel
theorem dX4_value_13 : decode cX4_value 13 = .ok (.aload_n 0, 1) := by decide +kernel
theorem dX4_value_14 : decode cX4_value 14 = .ok (.getfield 25, 3) := by decide +kernel
theorem dX4_value_17 : decode cX4_value 17 = .ok (.iload_n 2, 1) := by decide +kernel
theorem dX4_value_18 : decode cX4_value 18 = .ok (.iaload, 1) := by decide +kernel
theorem dX4_value_19 : decode cX4_value 19 = .ok (.istore_n 3, 1) := by decide +kernel
theorem dX4_value_20 : decode cX4_value 20 = .ok (.iload_n 3, 1) := by decide +kernel
theorem dX4_value_21 : decode cX4_value 21 = .ok (.sipush 2000, 3) := by decide +kernel
theorem dX4_value_24 : decode cX4_value 24 = .ok (.if_icmp .ne 29, 3) := by decide +kernel
theorem dX4_value_27 : decode cX4_value 27 = .ok (.iload_n 1, 1) := by decide +kernel
theorem dX4_value_28 : decode cX4_value 28 = .ok (.iconst 1, 1) := by decide +kernel
theorem dX4_value_29 : decode cX4_value 29 = .ok (.if_icmp .lt 127, 3) := by decide +kernel
theorem dX4_value_32 : decode cX4_value 32 = .ok (.aload_n 0, 1) := by decide +kernel
theorem dX4_value_33 : decode cX4_value 33 = .ok (.getfield 13, 3) := by decide +kernel
theorem dX4_value_36 : decode cX4_value 36 = .ok (.iload_n 1, 1) := by decide +kernel
theorem dX4_value_37 : decode cX4_value 37 = .ok (.iconst 1, 1) := by decide +kernel
theorem dX4_value_38 : decode cX4_value 38 = .ok (.isub, 1) := by decide +kernel
theorem dX4_value_39 : decode cX4_value 39 = .ok (.iconst 1, 1) := by decide +kernel
theorem dX4_value_40 : decode cX4_value 40 = .ok (.aload_n 0, 1) := by decide +kernel
theorem dX4_value_41 : decode cX4_value 41 = .ok (.getfield 13, 3) := by decide +kernel
theorem dX4_value_44 : decode cX4_value 44 = .ok (.iload_n 1, 1) := by decide +kernel
theorem dX4_value_45 : decode cX4_value 45 = .ok (.iconst 1, 1) := by decide +kernel
theorem dX4_value_46 : decode cX4_value 46 = .ok (.isub, 1) := by decide +kernel
theorem dX4_value_47 : decode cX4_value 47 = .ok (.iaload, 1) := by decide +kernel
theorem dX4_value_48 : decode cX4_value 48 = .ok (.isub, 1) := by decide +kernel
theorem dX4_value_49 : decode cX4_value 49 = .ok (.iastore, 1) := by decide +kernel
theorem dX4_value_50 : decode cX4_value 50 = .ok (.goto 106, 3) := by decide +kernel
theorem dX4_value_53 : decode cX4_value 53 = .ok (.iload_n 3, 1) := by decide +kernel
theorem dX4_value_54 : decode cX4_value 54 = .ok (.sipush 2000, 3) := by decide +kernel
theorem dX4_value_57 : decode cX4_value 57 = .ok (.if_icmp .le 59, 3) := by decide +kernel
theorem dX4_value_60 : decode cX4_value 60 = .ok (.iload_n 1, 1) := by decide +kernel
theorem dX4_value_61 : decode cX4_value 61 = .ok (.iconst 2, 1) := by decide +kernel
theorem dX4_value_62 : decode cX4_value 62 = .ok (.if_icmp .lt 94, 3) := by decide +kernel
theorem dX4_value_65 : decode cX4_value 65 = .ok (.iinc 1 (-1), 3) := by decide +kernel
theorem dX4_value_68 : decode cX4_value 68 = .ok (.iload_n 3, 1) := by decide +kernel
theorem dX4_value_69 : decode cX4_value 69 = .ok (.aload_n 0, 1) := by decide +kernel
theorem dX4_value_70 : decode cX4_value 70 = .ok (.getfield 13, 3) := by decide +kernel
theorem dX4_value_73 : decode cX4_value 73 = .ok (.iload_n 1, 1) := by decide +kernel
theorem dX4_value_74 : decode cX4_value 74 = .ok (.iconst 1, 1) := by decide +kernel
theorem dX4_value_75 : decode cX4_value 75 = .ok (.isub, 1) := by decide +kernel
theorem dX4_value_76 : decode cX4_value 76 = .ok (.iaload, 1) := by decide +kernel
theorem dX4_value_77 : decode cX4_value 77 = .ok (.i2l, 1) := by decide +kernel
theorem dX4_value_78 : decode cX4_value 78 = .ok (.aload_n 0, 1) := by decide +kernel
theorem dX4_value_79 : decode cX4_value 79 = .ok (.getfield 13, 3) := by decide +kernel
theorem dX4_value_82 : decode cX4_value 82 = .ok (.iload_n 1, 1) := by decide +kernel
theorem dX4_value_83 : decode cX4_value 83 = .ok (.iaload, 1) := by decide +kernel
theorem dX4_value_84 : decode cX4_value 84 = .ok (.i2l, 1) := by decide +kernel
theorem dX4_value_85 : decode cX4_value 85 = .ok (.invokestatic 34, 3) := by decide +kernel
theorem dX4_value_88 : decode cX4_value 88 = .ok (.lstore 4, 2) := by decide +kernel
theorem dX4_value_90 : decode cX4_value 90 = .ok (.aload_n 0, 1) := by decide +kernel
theorem dX4_value_91 : decode cX4_value 91 = .ok (.getfield 13, 3) := by decide +kernel
theorem dX4_value_94 : decode cX4_value 94 = .ok (.iload_n 1, 1) := by decide +kernel
theorem dX4_value_95 : decode cX4_value 95 = .ok (.iconst 1, 1) := by decide +kernel
theorem dX4_value_96 : decode cX4_value 96 = .ok (.isub, 1) := by decide +kernel
theorem dX4_value_97 : decode cX4_value 97 = .ok (.ldc2_w 38, 3) := by decide +kernel
theorem dX4_value_100 : decode cX4_value 100 = .ok (.ldc2_w 40, 3) := by decide +kernel
theorem dX4_value_103 : decode cX4_value 103 = .ok (.lload 4, 2) := by decide +kernel
theorem dX4_value_105 : decode cX4_value 105 = .ok (.invokestatic 42, 3) := by decide +kernel
theorem dX4_value_108 : decode cX4_value 108 = .ok (.invokestatic 45, 3) := by decide +kernel
theorem dX4_value_111 : decode cX4_value 111 = .ok (.l2i, 1) := by decide +kernel
theorem dX4_value_112 : decode cX4_value 112 = .ok (.iastore, 1) := by decide +kernel
theorem dX4_value_113 : decode cX4_value 113 = .ok (.goto 43, 3) := by decide +kernel
theorem dX4_value_116 : decode cX4_value 116 = .ok (.iload_n 1, 1) := by decide +kernel
theorem dX4_value_117 : decode cX4_value 117 = .ok (.bipush 32, 2) := by decide +kernel
theorem dX4_value_119 : decode cX4_value 119 = .ok (.if_icmp .ge 37, 3) := by decide +kernel
theorem dX4_value_122 : decode cX4_value 122 = .ok (.aload_n 0, 1) := by decide +kernel
theorem dX4_value_123 : decode cX4_value 123 = .ok (.getfield 13, 3) := by decide +kernel
theorem dX4_value_126 : decode cX4_value 126 = .ok (.iload_n 1, 1) := by decide +kernel
theorem dX4_value_127 : decode cX4_value 127 = .ok (.iload_n 3, 1) := by decide +kernel
theorem dX4_value_128 : decode cX4_value 128 = .ok (.sipush 1000, 3) := by decide +kernel
theorem dX4_value_131 : decode cX4_value 131 = .ok (.if_icmp .ge 7, 3) := by decide +kernel
theorem dX4_value_134 : decode cX4_value 134 = .ok (.iload_n 3, 1) := by decide +kernel
theorem dX4_value_135 : decode cX4_value 135 = .ok (.goto 17, 3) := by decide +kernel
theorem dX4_value_138 : decode cX4_value 138 = .ok (.aload_n 0, 1) := by decide +kernel
theorem dX4_value_139 : decode cX4_value 139 = .ok (.getfield 9, 3) := by decide +kernel
theorem dX4_value_142 : decode cX4_value 142 = .ok (.iload_n 3, 1) := by decide +kernel
theorem dX4_value_143 : decode cX4_value 143 = .ok (.sipush 1000, 3) := by decide +kernel
theorem dX4_value_146 : decode cX4_value 146 = .ok (.isub, 1) := by decide +kernel
theorem dX4_value_147 : decode cX4_value 147 = .ok (.iconst 5, 1) := by decide +kernel
theorem dX4_value_148 : decode cX4_value 148 = .ok (.invokestatic 16, 3) := by decide +kernel
theorem dX4_value_151 : decode cX4_value 151 = .ok (.iaload, 1) := by decide +kernel
theorem dX4_value_152 : decode cX4_value 152 = .ok (.iastore, 1) := by decide +kernel
theorem dX4_value_153 : decode cX4_value 153 = .ok (.iinc 1 1, 3) := by decide +kernel
theorem dX4_value_156 : decode cX4_value 156 = .ok (.iinc 2 1, 3) := by decide +kernel
theorem dX4_value_159 : decode cX4_value 159 = .ok (.goto (-155), 3) := by decide +kernel
theorem dX4_value_162 : decode cX4_value 162 = .ok (.iload_n 1, 1) := by decide +kernel
theorem dX4_value_163 : decode cX4_value 163 = .ok (.ifCond .le 12, 3) := by decide +kernel
theorem dX4_value_166 : decode cX4_value 166 = .ok (.aload_n 0, 1) := by decide +kernel
theorem dX4_value_167 : decode cX4_value 167 = .ok (.getfield 13, 3) := by decide +kernel
theorem dX4_value_170 : decode cX4_value 170 = .ok (.iconst 0, 1) := by decide +kernel
theorem dX4_value_171 : decode cX4_value 171 = .ok (.iaload, 1) := by decide +kernel
theorem dX4_value_172 : decode cX4_value 172 = .ok (.goto 4, 3) := by decide +kernel
theorem dX4_value_175 : decode cX4_value 175 = .ok (.iconst 0, 1) := by decide +kernel
theorem dX4_value_176 : decode cX4_value 176 = .ok (.ireturn, 1) := by decide +kernel
theorem dX4_join_0 : decode cX4_join 0 = .ok (.iload_n 0, 1) := by decide +kernel
theorem dX4_join_1 : decode cX4_join 1 = .ok (.tableswitch 109 2001 2007 #[43, 47, 51, 55, 67, 79, 91], 43) := by decide +kernel
theorem dX4_join_44 : decode cX4_join 44 = .ok (.lload_n 1, 1) := by decide +kernel
theorem dX4_join_45 : decode cX4_join 45 = .ok (.lload_n 3, 1) := by decide +kernel
theorem dX4_join_46 : decode cX4_join 46 = .ok (.ladd, 1) := by decide +kernel
theorem dX4_join_47 : decode cX4_join 47 = .ok (.lreturn, 1) := by decide +kernel
theorem dX4_join_48 : decode cX4_join 48 = .ok (.lload_n 1, 1) := by decide +kernel
theorem dX4_join_49 : decode cX4_join 49 = .ok (.lload_n 3, 1) := by decide +kernel
theorem dX4_join_50 : decode cX4_join 50 = .ok (.lsub, 1) := by decide +kernel
theorem dX4_join_51 : decode cX4_join 51 = .ok (.lreturn, 1) := by decide +kernel
theorem dX4_join_52 : decode cX4_join 52 = .ok (.lload_n 1, 1) := by decide +kernel
theorem dX4_join_53 : decode cX4_join 53 = .ok (.lload_n 3, 1) := by decide +kernel
theorem dX4_join_54 : decode cX4_join 54 = .ok (.lmul, 1) := by decide +kernel
theorem dX4_join_55 : decode cX4_join 55 = .ok (.lreturn, 1) := by decide +kernel
theorem dX4_join_56 : decode cX4_join 56 = .ok (.lload_n 1, 1) := by decide +kernel
theorem dX4_join_57 : decode cX4_join 57 = .ok (.lload_n 3, 1) := by decide +kernel
theorem dX4_join_58 : decode cX4_join 58 = .ok (.lcmp, 1) := by decide +kernel
theorem dX4_join_59 : decode cX4_join 59 = .ok (.ifCond .ne 7, 3) := by decide +kernel
theorem dX4_join_62 : decode cX4_join 62 = .ok (.lconst 1, 1) := by decide +kernel
theorem dX4_join_63 : decode cX4_join 63 = .ok (.goto 4, 3) := by decide +kernel
theorem dX4_join_66 : decode cX4_join 66 = .ok (.lconst 0, 1) := by decide +kernel
theorem dX4_join_67 : decode cX4_join 67 = .ok (.lreturn, 1) := by decide +kernel
theorem dX4_join_68 : decode cX4_join 68 = .ok (.lload_n 1, 1) := by decide +kernel
theorem dX4_join_69 : decode cX4_join 69 = .ok (.lload_n 3, 1) := by decide +kernel
theorem dX4_join_70 : decode cX4_join 70 = .ok (.lcmp, 1) := by decide +kernel
theorem dX4_join_71 : decode cX4_join 71 = .ok (.ifCond .ge 7, 3) := by decide +kernel
theorem dX4_join_74 : decode cX4_join 74 = .ok (.lconst 1, 1) := by decide +kernel
theorem dX4_join_75 : decode cX4_join 75 = .ok (.goto 4, 3) := by decide +kernel
theorem dX4_join_78 : decode cX4_join 78 = .ok (.lconst 0, 1) := by decide +kernel
theorem dX4_join_79 : decode cX4_join 79 = .ok (.lreturn, 1) := by decide +kernel
theorem dX4_join_80 : decode cX4_join 80 = .ok (.lload_n 1, 1) := by decide +kernel
theorem dX4_join_81 : decode cX4_join 81 = .ok (.lload_n 3, 1) := by decide +kernel
theorem dX4_join_82 : decode cX4_join 82 = .ok (.lcmp, 1) := by decide +kernel
theorem dX4_join_83 : decode cX4_join 83 = .ok (.ifCond .le 7, 3) := by decide +kernel
theorem dX4_join_86 : decode cX4_join 86 = .ok (.lconst 1, 1) := by decide +kernel
theorem dX4_join_87 : decode cX4_join 87 = .ok (.goto 4, 3) := by decide +kernel
theorem dX4_join_90 : decode cX4_join 90 = .ok (.lconst 0, 1) := by decide +kernel
theorem dX4_join_91 : decode cX4_join 91 = .ok (.lreturn, 1) := by decide +kernel
theorem dX4_join_92 : decode cX4_join 92 = .ok (.lload_n 1, 1) := by decide +kernel
theorem dX4_join_93 : decode cX4_join 93 = .ok (.lconst 0, 1) := by decide +kernel
theorem dX4_join_94 : decode cX4_join 94 = .ok (.lcmp, 1) := by decide +kernel
theorem dX4_join_95 : decode cX4_join 95 = .ok (.ifCond .eq 13, 3) := by decide +kernel
theorem dX4_join_98 : decode cX4_join 98 = .ok (.lload_n 3, 1) := by decide +kernel
theorem dX4_join_99 : decode cX4_join 99 = .ok (.lconst 0, 1) := by decide +kernel
theorem dX4_join_100 : decode cX4_join 100 = .ok (.lcmp, 1) := by decide +kernel
theorem dX4_join_101 : decode cX4_join 101 = .ok (.ifCond .eq 7, 3) := by decide +kernel
theorem dX4_join_104 : decode cX4_join 104 = .ok (.lconst 1, 1) := by decide +kernel
theorem dX4_join_105 : decode cX4_join 105 = .ok (.goto 4, 3) := by decide +kernel
theorem dX4_join_108 : decode cX4_join 108 = .ok (.lconst 0, 1) := by decide +kernel
theorem dX4_join_109 : decode cX4_join 109 = .ok (.lreturn, 1) := by decide +kernel
theorem dX4_join_110 : decode cX4_join 110 = .ok (.lload_n 1, 1) := by decide +kernel
theorem dX4_join_111 : decode cX4_join 111 = .ok (.lconst 0, 1) := by decide +kernel
theorem dX4_join_112 : decode cX4_join 112 = .ok (.lcmp, 1) := by decide +kernel
theorem dX4_join_113 : decode cX4_join 113 = .ok (.ifCond .ne 9, 3) := by decide +kernel
theorem dX4_join_116 : decode cX4_join 116 = .ok (.lload_n 3, 1) := by decide +kernel
theorem dX4_join_117 : decode cX4_join 117 = .ok (.lconst 0, 1) := by decide +kernel
theorem dX4_join_118 : decode cX4_join 118 = .ok (.lcmp, 1) := by decide +kernel
theorem dX4_join_119 : decode cX4_join 119 = .ok (.ifCond .eq 7, 3) := by decide +kernel
theorem dX4_join_122 : decode cX4_join 122 = .ok (.lconst 1, 1) := by decide +kernel
theorem dX4_join_123 : decode cX4_join 123 = .ok (.goto 4, 3) := by decide +kernel
theorem dX4_join_126 : decode cX4_join 126 = .ok (.lconst 0, 1) := by decide +kernel
theorem dX4_join_127 : decode cX4_join 127 = .ok (.lreturn, 1) := by decide +kernel
theorem dX5_init_0 : decode cX5_init 0 = .ok (.aload_n 0, 1) := by decide +kernel
theorem dX5_init_1 : decode cX5_init 1 = .ok (.invokespecial 3, 3) := by decide +kernel
theorem dX5_init_4 : decode cX5_init 4 = .ok (.aload_n 0, 1) := by decide +kernel
theorem dX5_init_5 : decode cX5_init 5 = .ok (.new 9, 3) := by decide +kernel
theorem dX5_init_8 : decode cX5_init 8 = .ok (.dup, 1) := by decide +kernel
theorem dX5_init_9 : decode cX5_init 9 = .ok (.invokespecial 11, 3) := by decide +kernel
theorem dX5_init_12 : decode cX5_init 12 = .ok (.putfield 12, 3) := by decide +kernel
theorem dX5_init_15 : decode cX5_init 15 = .ok (.aload_n 0, 1) := by decide +kernel
theorem dX5_init_16 : decode cX5_init 16 = .ok (.sipush 900, 3) := by decide +kernel
theorem dX5_init_19 : decode cX5_init 19 = .ok (.newarray .int, 2) := by decide +kernel
theorem dX5_init_21 : decode cX5_init 21 = .ok (.putfield 18, 3) := by decide +kernel
theorem dX5_init_24 : decode cX5_init 24 = .ok (.aload_n 0, 1) := by decide +kernel
theorem dX5_init_25 : decode cX5_init 25 = .ok (.new 22, 3) := by decide +kernel
theorem dX5_init_28 : decode cX5_init 28 = .ok (.dup, 1) := by decide +kernel
theorem dX5_init_29 : decode cX5_init 29 = .ok (.aload_n 1, 1) := by decide +kernel
theorem dX5_init_30 : decode cX5_init 30 = .ok (.invokespecial 24, 3) := by decide +kernel
theorem dX5_init_33 : decode cX5_init 33 = .ok (.putfield 27, 3) := by decide +kernel
theorem dX5_init_36 : decode cX5_init 36 = .ok (.aload_n 0, 1) := by decide +kernel
theorem dX5_init_37 : decode cX5_init 37 = .ok (.aload_n 1, 1) := by decide +kernel
theorem dX5_init_38 : decode cX5_init 38 = .ok (.putfield 31, 3) := by decide +kernel
theorem dX5_init_41 : decode cX5_init 41 = .ok (.return_, 1) := by decide +kernel
theorem dX5_read_0 : decode cX5_read 0 = .ok (.aload_n 0, 1) := by decide +kernel
theorem dX5_read_1 : decode cX5_read 1 = .ok (.new 35, 3) := by decide +kernel
theorem dX5_read_4 : decode cX5_read 4 = .ok (.dup, 1) := by decide +kernel
theorem dX5_read_5 : decode cX5_read 5 = .ok (.invokespecial 37, 3) := by decide +kernel
theorem dX5_read_8 : decode cX5_read 8 = .ok (.putfield 31, 3) := by decide +kernel
theorem dX5_read_11 : decode cX5_read 11 = .ok (.aload_n 0, 1) := by decide +kernel
theorem dX5_read_12 : decode cX5_read 12 = .ok (.getfield 27, 3) := by decide +kernel
theorem dX5_read_15 : decode cX5_read 15 = .ok (.aload_n 0, 1) := by decide +kernel
theorem dX5_read_16 : decode cX5_read 16 = .ok (.getfield 31, 3) := by decide +kernel
theorem dX5_read_19 : decode cX5_read 19 = .ok (.invokevirtual 38, 3) := by decide +kernel
theorem dX5_read_22 : decode cX5_read 22 = .ok (.aload_n 0, 1) := by decide +kernel
theorem dX5_read_23 : decode cX5_read 23 = .ok (.iconst 0, 1) := by decide +kernel
theorem dX5_read_24 : decode cX5_read 24 = .ok (.putfield 41, 3) := by decide +kernel
theorem dX5_read_27 : decode cX5_read 27 = .ok (.aload_n 0, 1) := by decide +kernel
theorem dX5_read_28 : decode cX5_read 28 = .ok (.iconst (-1), 1) := by decide +kernel
theorem dX5_read_29 : decode cX5_read 29 = .ok (.putfield 45, 3) := by decide +kernel
theorem dX5_read_32 : decode cX5_read 32 = .ok (.aload_n 0, 1) := by decide +kernel
theorem dX5_read_33 : decode cX5_read 33 = .ok (.getfield 12, 3) := by decide +kernel
theorem dX5_read_36 : decode cX5_read 36 = .ok (.aload_n 1, 1) := by decide +kernel
theorem dX5_read_37 : decode cX5_read 37 = .ok (.iload_n 2, 1) := by decide +kernel
theorem dX5_read_38 : decode cX5_read 38 = .ok (.invokevirtual 48, 3) := by decide +kernel
theorem dX5_read_41 : decode cX5_read 41 = .ok (.aload_n 0, 1) := by decide +kernel
theorem dX5_read_42 : decode cX5_read 42 = .ok (.invokevirtual 52, 3) := by decide +kernel
theorem dX5_read_45 : decode cX5_read 45 = .ok (.iconst 0, 1) := by decide +kernel
theorem dX5_read_46 : decode cX5_read 46 = .ok (.istore_n 3, 1) := by decide +kernel
theorem dX5_read_47 : decode cX5_read 47 = .ok (.iload_n 3, 1) := by decide +kernel
theorem dX5_read_48 : decode cX5_read 48 = .ok (.sipush 900, 3) := by decide +kernel
theorem dX5_read_51 : decode cX5_read 51 = .ok (.if_icmp .ge 136, 3) := by decide +kernel
theorem dX5_read_54 : decode cX5_read 54 = .ok (.aload_n 0, 1) := by decide +kernel
theorem dX5_read_55 : decode cX5_read 55 = .ok (.getfield 41, 3) := by decide +kernel
theorem dX5_read_58 : decode cX5_read 58 = .ok (.ifCond .ne 129, 3) := by decide +kernel
theorem dX5_read_61 : decode cX5_read 61 = .ok (.aload_n 0, 1) := by decide +kernel
theorem dX5_read_62 : decode cX5_read 62 = .ok (.getfield 12, 3) := by decide +kernel
theorem dX5_read_65 : decode cX5_read 65 = .ok (.getfield 55, 3) := by decide +kernel
theorem dX5_read_68 : decode cX5_read 68 = .ok (.ifCond .eq 119, 3) := by decide +kernel
theorem dX5_read_71 : decode cX5_read 71 = .ok (.aload_n 0, 1) := by decide +kernel
theorem dX5_read_72 : decode cX5_read 72 = .ok (.getfield 12, 3) := by decide +kernel
theorem dX5_read_75 : decode cX5_read 75 = .ok (.getfield 55, 3) := by decide +kernel
theorem dX5_read_78 : decode cX5_read 78 = .ok (.tableswitch 94 201 205 #[34, 41, 48, 55, 62], 34) := by decide +kernel
theorem dX5_read_112 : decode cX5_read 112 = .ok (.aload_n 0, 1) := by decide +kernel
theorem dX5_read_113 : decode cX5_read 113 = .ok (.invokevirtual 58, 3) := by decide +kernel
theorem dX5_read_116 : decode cX5_read 116 = .ok (.goto 61, 3) := by decide +kernel
theorem dX5_read_119 : decode cX5_read 119 = .ok (.aload_n 0, 1) := by decide +kernel
theorem dX5_read_120 : decode cX5_read 120 = .ok (.invokevirtual 61, 3) := by decide +kernel
theorem dX5_read_123 : decode cX5_read 123 = .ok (.goto 54, 3) := by decide +kernel
theorem dX5_read_126 : decode cX5_read 126 = .ok (.aload_n 0, 1) := by decide +kernel
theorem dX5_read_127 : decode cX5_read 127 = .ok (.invokevirtual 64, 3) := by decide +kernel
theorem dX5_read_130 : decode cX5_read 130 = .ok (.goto 47, 3) := by decide +kernel
theorem dX5_read_133 : decode cX5_read 133 = .ok (.aload_n 0, 1) := by decide +kernel
theorem dX5_read_134 : decode cX5_read 134 = .ok (.invokevirtual 67, 3) := by decide +kernel
theorem dX5_read_137 : decode cX5_read 137 = .ok (.goto 40, 3) := by decide +kernel
theorem dX5_read_140 : decode cX5_read 140 = .ok (.aload_n 0, 1) := by decide +kernel
theorem dX5_read_141 : decode cX5_read 141 = .ok (.getfield 12, 3) := by decide +kernel
theorem dX5_read_144 : decode cX5_read 144 = .ok (.invokevirtual 70, 3) := by decide +kernel
theorem dX5_read_147 : decode cX5_read 147 = .ok (.aload_n 0, 1) := by decide +kernel
theorem dX5_read_148 : decode cX5_read 148 = .ok (.getfield 27, 3) := by decide +kernel
theorem dX5_read_151 : decode cX5_read 151 = .ok (.aload_n 0, 1) := by decide +kernel
theorem dX5_read_152 : decode cX5_read 152 = .ok (.iconst 0, 1) := by decide +kernel
theorem dX5_read_153 : decode cX5_read 153 = .ok (.sipush 999, 3) := by decide +kernel
theorem dX5_read_156 : decode cX5_read 156 = .ok (.invokevirtual 73, 3) := by decide +kernel
theorem dX5_read_159 : decode cX5_read 159 = .ok (.putfield 77, 3) := by decide +kernel
theorem dX5_read_162 : decode cX5_read 162 = .ok (.aload_n 0, 1) := by decide +kernel
theorem dX5_read_163 : decode cX5_read 163 = .ok (.getfield 12, 3) := by decide +kernel
theorem dX5_read_166 : decode cX5_read 166 = .ok (.invokevirtual 70, 3) := by decide +kernel
theorem dX5_read_169 : decode cX5_read 169 = .ok (.goto 8, 3) := by decide +kernel
theorem dX5_read_172 : decode cX5_read 172 = .ok (.aload_n 0, 1) := by decide +kernel
theorem dX5_read_173 : decode cX5_read 173 = .ok (.iconst 2, 1) := by decide +kernel
theorem dX5_read_174 : decode cX5_read 174 = .ok (.invokevirtual 80, 3) := by decide +kernel
theorem dX5_read_177 : decode cX5_read 177 = .ok (.aload_n 0, 1) := by decide +kernel
theorem dX5_read_178 : decode cX5_read 178 = .ok (.invokevirtual 84, 3) := by decide +kernel
theorem dX5_read_181 : decode cX5_read 181 = .ok (.iinc 3 1, 3) := by decide +kernel
theorem dX5_read_184 : decode cX5_read 184 = .ok (.goto (-137), 3) := by decide +kernel
theorem dX5_read_187 : decode cX5_read 187 = .ok (.aload_n 0, 1) := by decide +kernel
theorem dX5_read_188 : decode cX5_read 188 = .ok (.invokevirtual 87, 3) := by decide +kernel
theorem dX5_read_191 : decode cX5_read 191 = .ok (.return_, 1) := by decide +kernel
theorem dX5_refuse_0 : decode cX5_refuse 0 = .ok (.aload_n 0, 1) := by decide +kernel
theorem dX5_refuse_1 : decode cX5_refuse 1 = .ok (.getfield 41, 3) := by decide +kernel
theorem dX5_refuse_4 : decode cX5_refuse 4 = .ok (.ifCond .ne 41, 3) := by decide +kernel
theorem dX5_refuse_7 : decode cX5_refuse 7 = .ok (.aload_n 0, 1) := by decide +kernel
theorem dX5_refuse_8 : decode cX5_refuse 8 = .ok (.aload_n 0, 1) := by decide +kernel
theorem dX5_refuse_9 : decode cX5_refuse 9 = .ok (.getfield 12, 3) := by decide +kernel
theorem dX5_refuse_12 : decode cX5_refuse 12 = .ok (.getfield 55, 3) := by decide +kernel
theorem dX5_refuse_15 : decode cX5_refuse 15 = .ok (.iconst 1, 1) := by decide +kernel
theorem dX5_refuse_16 : decode cX5_refuse 16 = .ok (.if_icmp .ne 7, 3) := by decide +kernel
theorem dX5_refuse_19 : decode cX5_refuse 19 = .ok (.iconst 1, 1) := by decide +kernel
theorem dX5_refuse_20 : decode cX5_refuse 20 = .ok (.goto 4, 3) := by decide +kernel
theorem dX5_refuse_23 : decode cX5_refuse 23 = .ok (.iload_n 1, 1) := by decide +kernel
theorem dX5_refuse_24 : decode cX5_refuse 24 = .ok (.putfield 41, 3) := by decide +kernel
theorem dX5_refuse_27 : decode cX5_refuse 27 = .ok (.aload_n 0, 1) := by decide +kernel
theorem dX5_refuse_28 : decode cX5_refuse 28 = .ok (.aload_n 0, 1) := by decide +kernel
theorem dX5_refuse_29 : decode cX5_refuse 29 = .ok (.getfield 12, 3) := by decide +kernel
theorem dX5_refuse_32 : decode cX5_refuse 32 = .ok (.getfield 90, 3) := by decide +kernel
theorem dX5_refuse_35 : decode cX5_refuse 35 = .ok (.putfield 45, 3) := by decide +kernel
theorem dX5_refuse_38 : decode cX5_refuse 38 = .ok (.aload_n 0, 1) := by decide +kernel
theorem dX5_refuse_39 : decode cX5_refuse 39 = .ok (.getfield 12, 3) := by decide +kernel
theorem dX5_refuse_42 : decode cX5_refuse 42 = .ok (.invokevirtual 92, 3) := by decide +kernel
theorem dX5_refuse_45 : decode cX5_refuse 45 = .ok (.return_, 1) := by decide +kernel
theorem dX5_expect_0 : decode cX5_expect 0 = .ok (.aload_n 0, 1) := by decide +kernel
theorem dX5_expect_1 : decode cX5_expect 1 = .ok (.getfield 12, 3) := by decide +kernel
theorem dX5_expect_4 : decode cX5_expect 4 = .ok (.getfield 55, 3) := by decide +kernel
theorem dX5_expect_7 : decode cX5_expect 7 = .ok (.iload_n 1, 1) := by decide +kernel
theorem dX5_expect_8 : decode cX5_expect 8 = .ok (.if_icmp .ne 13, 3) := by decide +kernel
theorem dX5_expect_11 : decode cX5_expect 11 = .ok (.aload_n 0, 1) := by decide +kernel
theorem dX5_expect_12 : decode cX5_expect 12 = .ok (.getfield 12, 3) := by decide +kernel
theorem dX5_expect_15 : decode cX5_expect 15 = .ok (.invokevirtual 70, 3) := by decide +kernel
theorem dX5_expect_18 : decode cX5_expect 18 = .ok (.goto 8, 3) := by decide +kernel
theorem dX5_expect_21 : decode cX5_expect 21 = .ok (.aload_n 0, 1) := by decide +kernel
theorem dX5_expect_22 : decode cX5_expect 22 = .ok (.iconst 2, 1) := by decide +kernel
theorem dX5_expect_23 : decode cX5_expect 23 = .ok (.invokevirtual 80, 3) := by decide +kernel
theorem dX5_expect_26 : decode cX5_expect 26 = .ok (.return_, 1) := by decide +kernel
theorem dX5_number_0 : decode cX5_number 0 = .ok (.aload_n 0, 1) := by decide +kernel
theorem dX5_number_1 : decode cX5_number 1 = .ok (.getfield 12, 3) := by decide +kernel
theorem dX5_number_4 : decode cX5_number 4 = .ok (.invokevirtual 95, 3) := by decide +kernel
theorem dX5_number_7 : decode cX5_number 7 = .ok (.ifCond .ne 10, 3) := by decide +kernel
theorem dX5_number_10 : decode cX5_number 10 = .ok (.aload_n 0, 1) := by decide +kernel
theorem dX5_number_11 : decode cX5_number 11 = .ok (.iconst 2, 1) := by decide +kernel
theorem dX5_number_12 : decode cX5_number 12 = .ok (.invokevirtual 80, 3) := by decide +kernel
theorem dX5_number_15 : decode cX5_number 15 = .ok (.iload_n 1, 1) := by decide +kernel
theorem dX5_number_16 : decode cX5_number 16 = .ok (.ireturn, 1) := by decide +kernel
theorem dX5_number_17 : decode cX5_number 17 = .ok (.aload_n 0, 1) := by decide +kernel
theorem dX5_number_18 : decode cX5_number 18 = .ok (.getfield 12, 3) := by decide +kernel
theorem dX5_number_21 : decode cX5_number 21 = .ok (.getfield 55, 3) := by decide +kernel
theorem dX5_number_24 : decode cX5_number 24 = .ok (.sipush 1000, 3) := by decide +kernel
theorem dX5_number_27 : decode cX5_number 27 = .ok (.isub, 1) := by decide +kernel
theorem dX5_number_28 : decode cX5_number 28 = .ok (.istore_n 3, 1) := by decide +kernel
theorem dX5_number_29 : decode cX5_number 29 = .ok (.iload_n 3, 1) := by decide +kernel
theorem dX5_number_30 : decode cX5_number 30 = .ok (.iload_n 1, 1) := by decide +kernel
theorem dX5_number_31 : decode cX5_number 31 = .ok (.if_icmp .lt 8, 3) := by decide +kernel
theorem dX5_number_34 : decode cX5_number 34 = .ok (.iload_n 3, 1) := by decide +kernel
theorem dX5_number_35 : decode cX5_number 35 = .ok (.iload_n 2, 1) := by decide +kernel
theorem dX5_number_36 : decode cX5_number 36 = .ok (.if_icmp .le 10, 3) := by decide +kernel
theorem dX5_number_39 : decode cX5_number 39 = .ok (.aload_n 0, 1) := by decide +kernel
theorem dX5_number_40 : decode cX5_number 40 = .ok (.iconst 3, 1) := by decide +kernel
theorem dX5_number_41 : decode cX5_number 41 = .ok (.invokevirtual 80, 3) := by decide +kernel
theorem dX5_number_44 : decode cX5_number 44 = .ok (.iload_n 1, 1) := by decide +kernel
theorem dX5_number_45 : decode cX5_number 45 = .ok (.ireturn, 1) := by decide +kernel
theorem dX5_number_46 : decode cX5_number 46 = .ok (.iload_n 3, 1) := by decide +kernel
theorem dX5_number_47 : decode cX5_number 47 = .ok (.ireturn, 1) := by decide +kernel
theorem dX5_lineEnd_0 : decode cX5_lineEnd 0 = .ok (.aload_n 0, 1) := by decide +kernel
theorem dX5_lineEnd_1 : decode cX5_lineEnd 1 = .ok (.bipush 59, 2) := by decide +kernel
theorem dX5_lineEnd_3 : decode cX5_lineEnd 3 = .ok (.invokevirtual 99, 3) := by decide +kernel
theorem dX5_lineEnd_6 : decode cX5_lineEnd 6 = .ok (.aload_n 0, 1) := by decide +kernel
theorem dX5_lineEnd_7 : decode cX5_lineEnd 7 = .ok (.getfield 31, 3) := by decide +kernel
theorem dX5_lineEnd_10 : decode cX5_lineEnd 10 = .ok (.dup, 1) := by decide +kernel
theorem dX5_lineEnd_11 : decode cX5_lineEnd 11 = .ok (.getfield 102, 3) := by decide +kernel
theorem dX5_lineEnd_14 : decode cX5_lineEnd 14 = .ok (.iconst 1, 1) := by decide +kernel
theorem dX5_lineEnd_15 : decode cX5_lineEnd 15 = .ok (.iadd, 1) := by decide +kernel
theorem dX5_lineEnd_16 : decode cX5_lineEnd 16 = .ok (.putfield 102, 3) := by decide +kernel
theorem dX5_lineEnd_19 : decode cX5_lineEnd 19 = .ok (.return_, 1) := by decide +kernel
theorem dX5_fallLine_0 : decode cX5_fallLine 0 = .ok (.aload_n 0, 1) := by decide +kernel
theorem dX5_fallLine_1 : decode cX5_fallLine 1 = .ok (.sipush 200, 3) := by decide +kernel
theorem dX5_fallLine_4 : decode cX5_fallLine 4 = .ok (.invokevirtual 99, 3) := by decide +kernel
theorem dX5_fallLine_7 : decode cX5_fallLine 7 = .ok (.aload_n 0, 1) := by decide +kernel
theorem dX5_fallLine_8 : decode cX5_fallLine 8 = .ok (.getfield 31, 3) := by decide +kernel
theorem dX5_fallLine_11 : decode cX5_fallLine 11 = .ok (.aload_n 0, 1) := by decide +kernel
theorem dX5_fallLine_12 : decode cX5_fallLine 12 = .ok (.iconst 1, 1) := by decide +kernel
theorem dX5_fallLine_13 : decode cX5_fallLine 13 = .ok (.bipush 6, 2) := by decide +kernel
theorem dX5_fallLine_15 : decode cX5_fallLine 15 = .ok (.invokevirtual 73, 3) := by decide +kernel
theorem dX5_fallLine_18 : decode cX5_fallLine 18 = .ok (.putfield 105, 3) := by decide +kernel
theorem dX5_fallLine_21 : decode cX5_fallLine 21 = .ok (.aload_n 0, 1) := by decide +kernel
theorem dX5_fallLine_22 : decode cX5_fallLine 22 = .ok (.getfield 12, 3) := by decide +kernel
theorem dX5_fallLine_25 : decode cX5_fallLine 25 = .ok (.invokevirtual 70, 3) := by decide +kernel
theorem dX5_fallLine_28 : decode cX5_fallLine 28 = .ok (.aload_n 0, 1) := by decide +kernel
theorem dX5_fallLine_29 : decode cX5_fallLine 29 = .ok (.getfield 31, 3) := by decide +kernel
theorem dX5_fallLine_32 : decode cX5_fallLine 32 = .ok (.aload_n 0, 1) := by decide +kernel
theorem dX5_fallLine_33 : decode cX5_fallLine 33 = .ok (.iconst 1, 1) := by decide +kernel
theorem dX5_fallLine_34 : decode cX5_fallLine 34 = .ok (.bipush 9, 2) := by decide +kernel
theorem dX5_fallLine_36 : decode cX5_fallLine 36 = .ok (.invokevirtual 73, 3) := by decide +kernel
theorem dX5_fallLine_39 : decode cX5_fallLine 39 = .ok (.putfield 108, 3) := by decide +kernel
theorem dX5_fallLine_42 : decode cX5_fallLine 42 = .ok (.aload_n 0, 1) := by decide +kernel
theorem dX5_fallLine_43 : decode cX5_fallLine 43 = .ok (.getfield 12, 3) := by decide +kernel
theorem dX5_fallLine_46 : decode cX5_fallLine 46 = .ok (.invokevirtual 70, 3) := by decide +kernel
theorem dX5_fallLine_49 : decode cX5_fallLine 49 = .ok (.aload_n 0, 1) := by decide +kernel
theorem dX5_fallLine_50 : decode cX5_fallLine 50 = .ok (.invokevirtual 84, 3) := by decide +kernel
theorem dX5_fallLine_53 : decode cX5_fallLine 53 = .ok (.return_, 1) := by decide +kernel
theorem dX5_thingLine_0 : decode cX5_thingLine 0 = .ok (.aload_n 0, 1) := by decide +kernel
theorem dX5_thingLine_1 : decode cX5_thingLine 1 = .ok (.getfield 31, 3) := by decide +kernel
theorem dX5_thingLine_4 : decode cX5_thingLine 4 = .ok (.getfield 111, 3) := by decide +kernel
theorem dX5_thingLine_7 : decode cX5_thingLine 7 = .ok (.istore_n 1, 1) := by decide +kernel
theorem dX5_thingLine_8 : decode cX5_thingLine 8 = .ok (.iload_n 1, 1) := by decide +kernel
theorem dX5_thingLine_9 : decode cX5_thingLine 9 = .ok (.bipush 8, 2) := by decide +kernel
theorem dX5_thingLine_11 : decode cX5_thingLine 11 = .ok (.if_icmp .lt 9, 3) := by decide +kernel
theorem dX5_thingLine_14 : decode cX5_thingLine 14 = .ok (.aload_n 0, 1) := by decide +kernel
theorem dX5_thingLine_15 : decode cX5_thingLine 15 = .ok (.iconst 4, 1) := by decide +kernel
theorem dX5_thingLine_16 : decode cX5_thingLine 16 = .ok (.invokevirtual 80, 3) := by decide +kernel
theorem dX5_thingLine_19 : decode cX5_thingLine 19 = .ok (.return_, 1) := by decide +kernel
theorem dX5_thingLine_20 : decode cX5_thingLine 20 = .ok (.aload_n 0, 1) := by decide +kernel
theorem dX5_thingLine_21 : decode cX5_thingLine 21 = .ok (.getfield 12, 3) := by decide +kernel
theorem dX5_thingLine_24 : decode cX5_thingLine 24 = .ok (.invokevirtual 70, 3) := by decide +kernel
theorem dX5_thingLine_27 : decode cX5_thingLine 27 = .ok (.aload_n 0, 1) := by decide +kernel
theorem dX5_thingLine_28 : decode cX5_thingLine 28 = .ok (.getfield 31, 3) := by decide +kernel
theorem dX5_thingLine_31 : decode cX5_thingLine 31 = .ok (.getfield 114, 3) := by decide +kernel
theorem dX5_thingLine_34 : decode cX5_thingLine 34 = .ok (.iload_n 1, 1) := by decide +kernel
theorem dX5_thingLine_35 : decode cX5_thingLine 35 = .ok (.aload_n 0, 1) := by decide +kernel
theorem dX5_thingLine_36 : decode cX5_thingLine 36 = .ok (.iconst 1, 1) := by decide +kernel
theorem dX5_thingLine_37 : decode cX5_thingLine 37 = .ok (.bipush 99, 2) := by decide +kernel
theorem dX5_thingLine_39 : decode cX5_thingLine 39 = .ok (.invokevirtual 73, 3) := by decide +kernel
theorem dX5_thingLine_42 : decode cX5_thingLine 42 = .ok (.iastore, 1) := by decide +kernel
theorem dX5_thingLine_43 : decode cX5_thingLine 43 = .ok (.aload_n 0, 1) := by decide +kernel
theorem dX5_thingLine_44 : decode cX5_thingLine 44 = .ok (.getfield 12, 3) := by decide +kernel
theorem dX5_thingLine_47 : decode cX5_thingLine 47 = .ok (.invokevirtual 70, 3) := by decide +kernel
theorem dX5_thingLine_50 : decode cX5_thingLine 50 = .ok (.aload_n 0, 1) := by decide +kernel
theorem dX5_thingLine_51 : decode cX5_thingLine 51 = .ok (.getfield 12, 3) := by decide +kernel
theorem dX5_thingLine_54 : decode cX5_thingLine 54 = .ok (.getfield 55, 3) := by decide +kernel
theorem dX5_thingLine_57 : decode cX5_thingLine 57 = .ok (.tableswitch 55 206 209 #[31, 39, 55, 47], 31) := by decide +kernel
theorem dX5_thingLine_88 : decode cX5_thingLine 88 = .ok (.aload_n 0, 1) := by decide +kernel
theorem dX5_thingLine_89 : decode cX5_thingLine 89 = .ok (.iload_n 1, 1) := by decide +kernel
theorem dX5_thingLine_90 : decode cX5_thingLine 90 = .ok (.invokevirtual 117, 3) := by decide +kernel
theorem dX5_thingLine_93 : decode cX5_thingLine 93 = .ok (.goto 24, 3) := by decide +kernel
theorem dX5_thingLine_96 : decode cX5_thingLine 96 = .ok (.aload_n 0, 1) := by decide +kernel
theorem dX5_thingLine_97 : decode cX5_thingLine 97 = .ok (.iload_n 1, 1) := by decide +kernel
theorem dX5_thingLine_98 : decode cX5_thingLine 98 = .ok (.invokevirtual 120, 3) := by decide +kernel
theorem dX5_thingLine_101 : decode cX5_thingLine 101 = .ok (.goto 16, 3) := by decide +kernel
theorem dX5_thingLine_104 : decode cX5_thingLine 104 = .ok (.aload_n 0, 1) := by decide +kernel
theorem dX5_thingLine_105 : decode cX5_thingLine 105 = .ok (.iload_n 1, 1) := by decide +kernel
theorem dX5_thingLine_106 : decode cX5_thingLine 106 = .ok (.invokevirtual 123, 3) := by decide +kernel
theorem dX5_thingLine_109 : decode cX5_thingLine 109 = .ok (.goto 8, 3) := by decide +kernel
theorem dX5_thingLine_112 : decode cX5_thingLine 112 = .ok (.aload_n 0, 1) := by decide +kernel
theorem dX5_thingLine_113 : decode cX5_thingLine 113 = .ok (.iconst 2, 1) := by decide +kernel
theorem dX5_thingLine_114 : decode cX5_thingLine 114 = .ok (.invokevirtual 80, 3) := by decide +kernel
theorem dX5_thingLine_117 : decode cX5_thingLine 117 = .ok (.aload_n 0, 1) := by decide +kernel
theorem dX5_thingLine_118 : decode cX5_thingLine 118 = .ok (.getfield 31, 3) := by decide +kernel
theorem dX5_thingLine_121 : decode cX5_thingLine 121 = .ok (.dup, 1) := by decide +kernel
theorem dX5_thingLine_122 : decode cX5_thingLine 122 = .ok (.getfield 111, 3) := by decide +kernel
theorem dX5_thingLine_125 : decode cX5_thingLine 125 = .ok (.iconst 1, 1) := by decide +kernel
theorem dX5_thingLine_126 : decode cX5_thingLine 126 = .ok (.iadd, 1) := by decide +kernel
theorem dX5_thingLine_127 : decode cX5_thingLine 127 = .ok (.putfield 111, 3) := by decide +kernel
theorem dX5_thingLine_130 : decode cX5_thingLine 130 = .ok (.return_, 1) := by decide +kernel
theorem dX5_heldThing_0 : decode cX5_heldThing 0 = .ok (.aload_n 0, 1) := by decide +kernel
theorem dX5_heldThing_1 : decode cX5_heldThing 1 = .ok (.getfield 12, 3) := by decide +kernel
theorem dX5_heldThing_4 : decode cX5_heldThing 4 = .ok (.invokevirtual 70, 3) := by decide +kernel
theorem dX5_heldThing_7 : decode cX5_heldThing 7 = .ok (.aload_n 0, 1) := by decide +kernel
theorem dX5_heldThing_8 : decode cX5_heldThing 8 = .ok (.getfield 27, 3) := by decide +kernel
theorem dX5_heldThing_11 : decode cX5_heldThing 11 = .ok (.getfield 126, 3) := by decide +kernel
theorem dX5_heldThing_14 : decode cX5_heldThing 14 = .ok (.iload_n 1, 1) := by decide +kernel
theorem dX5_heldThing_15 : decode cX5_heldThing 15 = .ok (.iconst 0, 1) := by decide +kernel
theorem dX5_heldThing_16 : decode cX5_heldThing 16 = .ok (.iastore, 1) := by decide +kernel
theorem dX5_heldThing_17 : decode cX5_heldThing 17 = .ok (.aload_n 0, 1) := by decide +kernel
theorem dX5_heldThing_18 : decode cX5_heldThing 18 = .ok (.getfield 27, 3) := by decide +kernel
theorem dX5_heldThing_21 : decode cX5_heldThing 21 = .ok (.getfield 129, 3) := by decide +kernel
theorem dX5_heldThing_24 : decode cX5_heldThing 24 = .ok (.iload_n 1, 1) := by decide +kernel
theorem dX5_heldThing_25 : decode cX5_heldThing 25 = .ok (.aload_n 0, 1) := by decide +kernel
theorem dX5_heldThing_26 : decode cX5_heldThing 26 = .ok (.iconst 0, 1) := by decide +kernel
theorem dX5_heldThing_27 : decode cX5_heldThing 27 = .ok (.bipush 99, 2) := by decide +kernel
theorem dX5_heldThing_29 : decode cX5_heldThing 29 = .ok (.invokevirtual 73, 3) := by decide +kernel
theorem dX5_heldThing_32 : decode cX5_heldThing 32 = .ok (.iastore, 1) := by decide +kernel
theorem dX5_heldThing_33 : decode cX5_heldThing 33 = .ok (.aload_n 0, 1) := by decide +kernel
theorem dX5_heldThing_34 : decode cX5_heldThing 34 = .ok (.getfield 12, 3) := by decide +kernel
theorem dX5_heldThing_37 : decode cX5_heldThing 37 = .ok (.invokevirtual 70, 3) := by decide +kernel
theorem dX5_heldThing_40 : decode cX5_heldThing 40 = .ok (.return_, 1) := by decide +kernel
theorem dX5_hangingThing_0 : decode cX5_hangingThing 0 = .ok (.aload_n 0, 1) := by decide +kernel
theorem dX5_hangingThing_1 : decode cX5_hangingThing 1 = .ok (.getfield 12, 3) := by decide +kernel
theorem dX5_hangingThing_4 : decode cX5_hangingThing 4 = .ok (.invokevirtual 70, 3) := by decide +kernel
theorem dX5_hangingThing_7 : decode cX5_hangingThing 7 = .ok (.aload_n 0, 1) := by decide +kernel
theorem dX5_hangingThing_8 : decode cX5_hangingThing 8 = .ok (.iconst 0, 1) := by decide +kernel
theorem dX5_hangingThing_9 : decode cX5_hangingThing 9 = .ok (.aload_n 0, 1) := by decide +kernel
theorem dX5_hangingThing_10 : decode cX5_hangingThing 10 = .ok (.getfield 31, 3) := by decide +kernel
theorem dX5_hangingThing_13 : decode cX5_hangingThing 13 = .ok (.getfield 105, 3) := by decide +kernel
theorem dX5_hangingThing_16 : decode cX5_hangingThing 16 = .ok (.iconst 1, 1) := by decide +kernel
theorem dX5_hangingThing_17 : decode cX5_hangingThing 17 = .ok (.isub, 1) := by decide +kernel
theorem dX5_hangingThing_18 : decode cX5_hangingThing 18 = .ok (.invokevirtual 73, 3) := by decide +kernel
theorem dX5_hangingThing_21 : decode cX5_hangingThing 21 = .ok (.istore_n 2, 1) := by decide +kernel
theorem dX5_hangingThing_22 : decode cX5_hangingThing 22 = .ok (.aload_n 0, 1) := by decide +kernel
theorem dX5_hangingThing_23 : decode cX5_hangingThing 23 = .ok (.getfield 12, 3) := by decide +kernel
theorem dX5_hangingThing_26 : decode cX5_hangingThing 26 = .ok (.invokevirtual 70, 3) := by decide +kernel
theorem dX5_hangingThing_29 : decode cX5_hangingThing 29 = .ok (.aload_n 0, 1) := by decide +kernel
theorem dX5_hangingThing_30 : decode cX5_hangingThing 30 = .ok (.iconst 0, 1) := by decide +kernel
theorem dX5_hangingThing_31 : decode cX5_hangingThing 31 = .ok (.aload_n 0, 1) := by decide +kernel
theorem dX5_hangingThing_32 : decode cX5_hangingThing 32 = .ok (.getfield 31, 3) := by decide +kernel
theorem dX5_hangingThing_35 : decode cX5_hangingThing 35 = .ok (.getfield 108, 3) := by decide +kernel
theorem dX5_hangingThing_38 : decode cX5_hangingThing 38 = .ok (.iconst 1, 1) := by decide +kernel
theorem dX5_hangingThing_39 : decode cX5_hangingThing 39 = .ok (.isub, 1) := by decide +kernel
theorem dX5_hangingThing_40 : decode cX5_hangingThing 40 = .ok (.invokevirtual 73, 3) := by decide +kernel
theorem dX5_hangingThing_43 : decode cX5_hangingThing 43 = .ok (.istore_n 3, 1) := by decide +kernel
theorem dX5_hangingThing_44 : decode cX5_hangingThing 44 = .ok (.aload_n 0, 1) := by decide +kernel
theorem dX5_hangingThing_45 : decode cX5_hangingThing 45 = .ok (.getfield 27, 3) := by decide +kernel
theorem dX5_hangingThing_48 : decode cX5_hangingThing 48 = .ok (.iload_n 2, 1) := by decide +kernel
theorem dX5_hangingThing_49 : decode cX5_hangingThing 49 = .ok (.iload_n 3, 1) := by decide +kernel
theorem dX5_hangingThing_50 : decode cX5_hangingThing 50 = .ok (.invokevirtual 132, 3) := by decide +kernel
theorem dX5_hangingThing_53 : decode cX5_hangingThing 53 = .ok (.ifCond .ne 8, 3) := by decide +kernel
theorem dX5_hangingThing_56 : decode cX5_hangingThing 56 = .ok (.aload_n 0, 1) := by decide +kernel
theorem dX5_hangingThing_57 : decode cX5_hangingThing 57 = .ok (.iconst 3, 1) := by decide +kernel
theorem dX5_hangingThing_58 : decode cX5_hangingThing 58 = .ok (.invokevirtual 80, 3) := by decide +kernel
theorem dX5_hangingThing_61 : decode cX5_hangingThing 61 = .ok (.aload_n 0, 1) := by decide +kernel
theorem dX5_hangingThing_62 : decode cX5_hangingThing 62 = .ok (.getfield 12, 3) := by decide +kernel
theorem dX5_hangingThing_65 : decode cX5_hangingThing 65 = .ok (.invokevirtual 70, 3) := by decide +kernel
theorem dX5_hangingThing_68 : decode cX5_hangingThing 68 = .ok (.aload_n 0, 1) := by decide +kernel
theorem dX5_hangingThing_69 : decode cX5_hangingThing 69 = .ok (.sipush 208, 3) := by decide +kernel
theorem dX5_hangingThing_72 : decode cX5_hangingThing 72 = .ok (.invokevirtual 99, 3) := by decide +kernel
theorem dX5_hangingThing_75 : decode cX5_hangingThing 75 = .ok (.aload_n 0, 1) := by decide +kernel
theorem dX5_hangingThing_76 : decode cX5_hangingThing 76 = .ok (.getfield 27, 3) := by decide +kernel
theorem dX5_hangingThing_79 : decode cX5_hangingThing 79 = .ok (.getfield 126, 3) := by decide +kernel
theorem dX5_hangingThing_82 : decode cX5_hangingThing 82 = .ok (.iload_n 1, 1) := by decide +kernel
theorem dX5_hangingThing_83 : decode cX5_hangingThing 83 = .ok (.iconst 1, 1) := by decide +kernel
theorem dX5_hangingThing_84 : decode cX5_hangingThing 84 = .ok (.iastore, 1) := by decide +kernel
theorem dX5_hangingThing_85 : decode cX5_hangingThing 85 = .ok (.aload_n 0, 1) := by decide +kernel
theorem dX5_hangingThing_86 : decode cX5_hangingThing 86 = .ok (.getfield 27, 3) := by decide +kernel
theorem dX5_hangingThing_89 : decode cX5_hangingThing 89 = .ok (.getfield 136, 3) := by decide +kernel
theorem dX5_hangingThing_92 : decode cX5_hangingThing 92 = .ok (.iload_n 1, 1) := by decide +kernel
theorem dX5_hangingThing_93 : decode cX5_hangingThing 93 = .ok (.iload_n 2, 1) := by decide +kernel
theorem dX5_hangingThing_94 : decode cX5_hangingThing 94 = .ok (.iastore, 1) := by decide +kernel
theorem dX5_hangingThing_95 : decode cX5_hangingThing 95 = .ok (.aload_n 0, 1) := by decide +kernel
theorem dX5_hangingThing_96 : decode cX5_hangingThing 96 = .ok (.getfield 27, 3) := by decide +kernel
theorem dX5_hangingThing_99 : decode cX5_hangingThing 99 = .ok (.getfield 139, 3) := by decide +kernel
theorem dX5_hangingThing_102 : decode cX5_hangingThing 102 = .ok (.iload_n 1, 1) := by decide +kernel
theorem dX5_hangingThing_103 : decode cX5_hangingThing 103 = .ok (.iload_n 3, 1) := by decide +kernel
theorem dX5_hangingThing_104 : decode cX5_hangingThing 104 = .ok (.iastore, 1) := by decide +kernel
theorem dX5_hangingThing_105 : decode cX5_hangingThing 105 = .ok (.aload_n 0, 1) := by decide +kernel
theorem dX5_hangingThing_106 : decode cX5_hangingThing 106 = .ok (.getfield 27, 3) := by decide +kernel
theorem dX5_hangingThing_109 : decode cX5_hangingThing 109 = .ok (.getfield 129, 3) := by decide +kernel
theorem dX5_hangingThing_112 : decode cX5_hangingThing 112 = .ok (.iload_n 1, 1) := by decide +kernel
theorem dX5_hangingThing_113 : decode cX5_hangingThing 113 = .ok (.aload_n 0, 1) := by decide +kernel
theorem dX5_hangingThing_114 : decode cX5_hangingThing 114 = .ok (.iconst 1, 1) := by decide +kernel
theorem dX5_hangingThing_115 : decode cX5_hangingThing 115 = .ok (.bipush 99, 2) := by decide +kernel
theorem dX5_hangingThing_117 : decode cX5_hangingThing 117 = .ok (.invokevirtual 73, 3) := by decide +kernel
theorem dX5_hangingThing_120 : decode cX5_hangingThing 120 = .ok (.iastore, 1) := by decide +kernel
theorem dX5_hangingThing_121 : decode cX5_hangingThing 121 = .ok (.aload_n 0, 1) := by decide +kernel
theorem dX5_hangingThing_122 : decode cX5_hangingThing 122 = .ok (.getfield 12, 3) := by decide +kernel
theorem dX5_hangingThing_125 : decode cX5_hangingThing 125 = .ok (.invokevirtual 70, 3) := by decide +kernel
theorem dX5_hangingThing_128 : decode cX5_hangingThing 128 = .ok (.return_, 1) := by decide +kernel
theorem dX5_lyingThing_0 : decode cX5_lyingThing 0 = .ok (.aload_n 0, 1) := by decide +kernel
theorem dX5_lyingThing_1 : decode cX5_lyingThing 1 = .ok (.getfield 12, 3) := by decide +kernel
theorem dX5_lyingThing_4 : decode cX5_lyingThing 4 = .ok (.invokevirtual 70, 3) := by decide +kernel
theorem dX5_lyingThing_7 : decode cX5_lyingThing 7 = .ok (.aload_n 0, 1) := by decide +kernel
theorem dX5_lyingThing_8 : decode cX5_lyingThing 8 = .ok (.iconst 0, 1) := by decide +kernel
theorem dX5_lyingThing_9 : decode cX5_lyingThing 9 = .ok (.aload_n 0, 1) := by decide +kernel
theorem dX5_lyingThing_10 : decode cX5_lyingThing 10 = .ok (.getfield 31, 3) := by decide +kernel
theorem dX5_lyingThing_13 : decode cX5_lyingThing 13 = .ok (.getfield 105, 3) := by decide +kernel
theorem dX5_lyingThing_16 : decode cX5_lyingThing 16 = .ok (.iconst 1, 1) := by decide +kernel
theorem dX5_lyingThing_17 : decode cX5_lyingThing 17 = .ok (.isub, 1) := by decide +kernel
theorem dX5_lyingThing_18 : decode cX5_lyingThing 18 = .ok (.invokevirtual 73, 3) := by decide +kernel
theorem dX5_lyingThing_21 : decode cX5_lyingThing 21 = .ok (.istore_n 2, 1) := by decide +kernel
theorem dX5_lyingThing_22 : decode cX5_lyingThing 22 = .ok (.aload_n 0, 1) := by decide +kernel
theorem dX5_lyingThing_23 : decode cX5_lyingThing 23 = .ok (.getfield 27, 3) := by decide +kernel
theorem dX5_lyingThing_26 : decode cX5_lyingThing 26 = .ok (.iload_n 2, 1) := by decide +kernel
theorem dX5_lyingThing_27 : decode cX5_lyingThing 27 = .ok (.invokevirtual 142, 3) := by decide +kernel
theorem dX5_lyingThing_30 : decode cX5_lyingThing 30 = .ok (.istore_n 3, 1) := by decide +kernel
theorem dX5_lyingThing_31 : decode cX5_lyingThing 31 = .ok (.iload_n 3, 1) := by decide +kernel
theorem dX5_lyingThing_32 : decode cX5_lyingThing 32 = .ok (.aload_n 0, 1) := by decide +kernel
theorem dX5_lyingThing_33 : decode cX5_lyingThing 33 = .ok (.getfield 31, 3) := by decide +kernel
theorem dX5_lyingThing_36 : decode cX5_lyingThing 36 = .ok (.getfield 108, 3) := by decide +kernel
theorem dX5_lyingThing_39 : decode cX5_lyingThing 39 = .ok (.if_icmp .ge 16, 3) := by decide +kernel
theorem dX5_lyingThing_42 : decode cX5_lyingThing 42 = .ok (.aload_n 0, 1) := by decide +kernel
theorem dX5_lyingThing_43 : decode cX5_lyingThing 43 = .ok (.getfield 27, 3) := by decide +kernel
theorem dX5_lyingThing_46 : decode cX5_lyingThing 46 = .ok (.iload_n 2, 1) := by decide +kernel
theorem dX5_lyingThing_47 : decode cX5_lyingThing 47 = .ok (.iload_n 3, 1) := by decide +kernel
theorem dX5_lyingThing_48 : decode cX5_lyingThing 48 = .ok (.invokevirtual 146, 3) := by decide +kernel
theorem dX5_lyingThing_51 : decode cX5_lyingThing 51 = .ok (.iconst (-1), 1) := by decide +kernel
theorem dX5_lyingThing_52 : decode cX5_lyingThing 52 = .ok (.if_icmp .eq 8, 3) := by decide +kernel
theorem dX5_lyingThing_55 : decode cX5_lyingThing 55 = .ok (.aload_n 0, 1) := by decide +kernel
theorem dX5_lyingThing_56 : decode cX5_lyingThing 56 = .ok (.iconst 3, 1) := by decide +kernel
theorem dX5_lyingThing_57 : decode cX5_lyingThing 57 = .ok (.invokevirtual 80, 3) := by decide +kernel
theorem dX5_lyingThing_60 : decode cX5_lyingThing 60 = .ok (.aload_n 0, 1) := by decide +kernel
theorem dX5_lyingThing_61 : decode cX5_lyingThing 61 = .ok (.getfield 12, 3) := by decide +kernel
theorem dX5_lyingThing_64 : decode cX5_lyingThing 64 = .ok (.invokevirtual 70, 3) := by decide +kernel
theorem dX5_lyingThing_67 : decode cX5_lyingThing 67 = .ok (.aload_n 0, 1) := by decide +kernel
theorem dX5_lyingThing_68 : decode cX5_lyingThing 68 = .ok (.getfield 27, 3) := by decide +kernel
theorem dX5_lyingThing_71 : decode cX5_lyingThing 71 = .ok (.getfield 126, 3) := by decide +kernel
theorem dX5_lyingThing_74 : decode cX5_lyingThing 74 = .ok (.iload_n 1, 1) := by decide +kernel
theorem dX5_lyingThing_75 : decode cX5_lyingThing 75 = .ok (.iconst 2, 1) := by decide +kernel
theorem dX5_lyingThing_76 : decode cX5_lyingThing 76 = .ok (.iastore, 1) := by decide +kernel
theorem dX5_lyingThing_77 : decode cX5_lyingThing 77 = .ok (.aload_n 0, 1) := by decide +kernel
theorem dX5_lyingThing_78 : decode cX5_lyingThing 78 = .ok (.getfield 27, 3) := by decide +kernel
theorem dX5_lyingThing_81 : decode cX5_lyingThing 81 = .ok (.getfield 136, 3) := by decide +kernel
theorem dX5_lyingThing_84 : decode cX5_lyingThing 84 = .ok (.iload_n 1, 1) := by decide +kernel
theorem dX5_lyingThing_85 : decode cX5_lyingThing 85 = .ok (.iload_n 2, 1) := by decide +kernel
theorem dX5_lyingThing_86 : decode cX5_lyingThing 86 = .ok (.iastore, 1) := by decide +kernel
theorem dX5_lyingThing_87 : decode cX5_lyingThing 87 = .ok (.aload_n 0, 1) := by decide +kernel
theorem dX5_lyingThing_88 : decode cX5_lyingThing 88 = .ok (.getfield 27, 3) := by decide +kernel
theorem dX5_lyingThing_91 : decode cX5_lyingThing 91 = .ok (.getfield 139, 3) := by decide +kernel
theorem dX5_lyingThing_94 : decode cX5_lyingThing 94 = .ok (.iload_n 1, 1) := by decide +kernel
theorem dX5_lyingThing_95 : decode cX5_lyingThing 95 = .ok (.iload_n 3, 1) := by decide +kernel
theorem dX5_lyingThing_96 : decode cX5_lyingThing 96 = .ok (.iastore, 1) := by decide +kernel
theorem dX5_lyingThing_97 : decode cX5_lyingThing 97 = .ok (.aload_n 0, 1) := by decide +kernel
theorem dX5_lyingThing_98 : decode cX5_lyingThing 98 = .ok (.getfield 27, 3) := by decide +kernel
theorem dX5_lyingThing_101 : decode cX5_lyingThing 101 = .ok (.getfield 129, 3) := by decide +kernel
theorem dX5_lyingThing_104 : decode cX5_lyingThing 104 = .ok (.iload_n 1, 1) := by decide +kernel
theorem dX5_lyingThing_105 : decode cX5_lyingThing 105 = .ok (.iconst 0, 1) := by decide +kernel
theorem dX5_lyingThing_106 : decode cX5_lyingThing 106 = .ok (.iastore, 1) := by decide +kernel
theorem dX5_lyingThing_107 : decode cX5_lyingThing 107 = .ok (.return_, 1) := by decide +kernel
theorem dX5_walkerLine_0 : decode cX5_walkerLine 0 = .ok (.aload_n 0, 1) := by decide +kernel
theorem dX5_walkerLine_1 : decode cX5_walkerLine 1 = .ok (.getfield 31, 3) := by decide +kernel
theorem dX5_walkerLine_4 : decode cX5_walkerLine 4 = .ok (.getfield 149, 3) := by decide +kernel
theorem dX5_walkerLine_7 : decode cX5_walkerLine 7 = .ok (.istore_n 1, 1) := by decide +kernel
theorem dX5_walkerLine_8 : decode cX5_walkerLine 8 = .ok (.iload_n 1, 1) := by decide +kernel
theorem dX5_walkerLine_9 : decode cX5_walkerLine 9 = .ok (.iconst 4, 1) := by decide +kernel
theorem dX5_walkerLine_10 : decode cX5_walkerLine 10 = .ok (.if_icmp .lt 9, 3) := by decide +kernel
theorem dX5_walkerLine_13 : decode cX5_walkerLine 13 = .ok (.aload_n 0, 1) := by decide +kernel
theorem dX5_walkerLine_14 : decode cX5_walkerLine 14 = .ok (.iconst 4, 1) := by decide +kernel
theorem dX5_walkerLine_15 : decode cX5_walkerLine 15 = .ok (.invokevirtual 80, 3) := by decide +kernel
theorem dX5_walkerLine_18 : decode cX5_walkerLine 18 = .ok (.return_, 1) := by decide +kernel
theorem dX5_walkerLine_19 : decode cX5_walkerLine 19 = .ok (.aload_n 0, 1) := by decide +kernel
theorem dX5_walkerLine_20 : decode cX5_walkerLine 20 = .ok (.getfield 12, 3) := by decide +kernel
theorem dX5_walkerLine_23 : decode cX5_walkerLine 23 = .ok (.invokevirtual 70, 3) := by decide +kernel
theorem dX5_walkerLine_26 : decode cX5_walkerLine 26 = .ok (.iconst 0, 1) := by decide +kernel
theorem dX5_walkerLine_27 : decode cX5_walkerLine 27 = .ok (.istore_n 2, 1) := by decide +kernel
theorem dX5_walkerLine_28 : decode cX5_walkerLine 28 = .ok (.iload_n 2, 1) := by decide +kernel
theorem dX5_walkerLine_29 : decode cX5_walkerLine 29 = .ok (.bipush 8, 2) := by decide +kernel
theorem dX5_walkerLine_31 : decode cX5_walkerLine 31 = .ok (.if_icmp .ge 70, 3) := by decide +kernel
theorem dX5_walkerLine_34 : decode cX5_walkerLine 34 = .ok (.iload_n 2, 1) := by decide +kernel
theorem dX5_walkerLine_35 : decode cX5_walkerLine 35 = .ok (.ifCond .eq 13, 3) := by decide +kernel
theorem dX5_walkerLine_38 : decode cX5_walkerLine 38 = .ok (.aload_n 0, 1) := by decide +kernel
theorem dX5_walkerLine_39 : decode cX5_walkerLine 39 = .ok (.getfield 12, 3) := by decide +kernel
theorem dX5_walkerLine_42 : decode cX5_walkerLine 42 = .ok (.invokevirtual 95, 3) := by decide +kernel
theorem dX5_walkerLine_45 : decode cX5_walkerLine 45 = .ok (.ifCond .eq 56, 3) := by decide +kernel
theorem dX5_walkerLine_48 : decode cX5_walkerLine 48 = .ok (.aload_n 0, 1) := by decide +kernel
theorem dX5_walkerLine_49 : decode cX5_walkerLine 49 = .ok (.getfield 31, 3) := by decide +kernel
theorem dX5_walkerLine_52 : decode cX5_walkerLine 52 = .ok (.getfield 152, 3) := by decide +kernel
theorem dX5_walkerLine_55 : decode cX5_walkerLine 55 = .ok (.iload_n 1, 1) := by decide +kernel
theorem dX5_walkerLine_56 : decode cX5_walkerLine 56 = .ok (.bipush 8, 2) := by decide +kernel
theorem dX5_walkerLine_58 : decode cX5_walkerLine 58 = .ok (.imul, 1) := by decide +kernel
theorem dX5_walkerLine_59 : decode cX5_walkerLine 59 = .ok (.iload_n 2, 1) := by decide +kernel
theorem dX5_walkerLine_60 : decode cX5_walkerLine 60 = .ok (.iadd, 1) := by decide +kernel
theorem dX5_walkerLine_61 : decode cX5_walkerLine 61 = .ok (.aload_n 0, 1) := by decide +kernel
theorem dX5_walkerLine_62 : decode cX5_walkerLine 62 = .ok (.iconst 0, 1) := by decide +kernel
theorem dX5_walkerLine_63 : decode cX5_walkerLine 63 = .ok (.aload_n 0, 1) := by decide +kernel
theorem dX5_walkerLine_64 : decode cX5_walkerLine 64 = .ok (.getfield 31, 3) := by decide +kernel
theorem dX5_walkerLine_67 : decode cX5_walkerLine 67 = .ok (.getfield 105, 3) := by decide +kernel
theorem dX5_walkerLine_70 : decode cX5_walkerLine 70 = .ok (.iconst 1, 1) := by decide +kernel
theorem dX5_walkerLine_71 : decode cX5_walkerLine 71 = .ok (.isub, 1) := by decide +kernel
theorem dX5_walkerLine_72 : decode cX5_walkerLine 72 = .ok (.invokevirtual 73, 3) := by decide +kernel
theorem dX5_walkerLine_75 : decode cX5_walkerLine 75 = .ok (.iastore, 1) := by decide +kernel
theorem dX5_walkerLine_76 : decode cX5_walkerLine 76 = .ok (.aload_n 0, 1) := by decide +kernel
theorem dX5_walkerLine_77 : decode cX5_walkerLine 77 = .ok (.getfield 31, 3) := by decide +kernel
theorem dX5_walkerLine_80 : decode cX5_walkerLine 80 = .ok (.getfield 155, 3) := by decide +kernel
theorem dX5_walkerLine_83 : decode cX5_walkerLine 83 = .ok (.iload_n 1, 1) := by decide +kernel
theorem dX5_walkerLine_84 : decode cX5_walkerLine 84 = .ok (.iload_n 2, 1) := by decide +kernel
theorem dX5_walkerLine_85 : decode cX5_walkerLine 85 = .ok (.iconst 1, 1) := by decide +kernel
theorem dX5_walkerLine_86 : decode cX5_walkerLine 86 = .ok (.iadd, 1) := by decide +kernel
theorem dX5_walkerLine_87 : decode cX5_walkerLine 87 = .ok (.iastore, 1) := by decide +kernel
theorem dX5_walkerLine_88 : decode cX5_walkerLine 88 = .ok (.aload_n 0, 1) := by decide +kernel
theorem dX5_walkerLine_89 : decode cX5_walkerLine 89 = .ok (.getfield 12, 3) := by decide +kernel
theorem dX5_walkerLine_92 : decode cX5_walkerLine 92 = .ok (.invokevirtual 70, 3) := by decide +kernel
theorem dX5_walkerLine_95 : decode cX5_walkerLine 95 = .ok (.iinc 2 1, 3) := by decide +kernel
theorem dX5_walkerLine_98 : decode cX5_walkerLine 98 = .ok (.goto (-70), 3) := by decide +kernel
theorem dX5_walkerLine_101 : decode cX5_walkerLine 101 = .ok (.aload_n 0, 1) := by decide +kernel
theorem dX5_walkerLine_102 : decode cX5_walkerLine 102 = .ok (.getfield 31, 3) := by decide +kernel
theorem dX5_walkerLine_105 : decode cX5_walkerLine 105 = .ok (.dup, 1) := by decide +kernel
theorem dX5_walkerLine_106 : decode cX5_walkerLine 106 = .ok (.getfield 149, 3) := by decide +kernel
theorem dX5_walkerLine_109 : decode cX5_walkerLine 109 = .ok (.iconst 1, 1) := by decide +kernel
theorem dX5_walkerLine_110 : decode cX5_walkerLine 110 = .ok (.iadd, 1) := by decide +kernel
theorem dX5_walkerLine_111 : decode cX5_walkerLine 111 = .ok (.putfield 149, 3) := by decide +kernel
theorem dX5_walkerLine_114 : decode cX5_walkerLine 114 = .ok (.return_, 1) := by decide +kernel
theorem dX5_hangsLine_0 : decode cX5_hangsLine 0 = .ok (.aload_n 0, 1) := by decide +kernel
theorem dX5_hangsLine_1 : decode cX5_hangsLine 1 = .ok (.getfield 12, 3) := by decide +kernel
theorem dX5_hangsLine_4 : decode cX5_hangsLine 4 = .ok (.invokevirtual 70, 3) := by decide +kernel
theorem dX5_hangsLine_7 : decode cX5_hangsLine 7 = .ok (.aload_n 0, 1) := by decide +kernel
theorem dX5_hangsLine_8 : decode cX5_hangsLine 8 = .ok (.bipush 58, 2) := by decide +kernel
theorem dX5_hangsLine_10 : decode cX5_hangsLine 10 = .ok (.invokevirtual 99, 3) := by decide +kernel
theorem dX5_hangsLine_13 : decode cX5_hangsLine 13 = .ok (.aload_n 0, 1) := by decide +kernel
theorem dX5_hangsLine_14 : decode cX5_hangsLine 14 = .ok (.iconst 0, 1) := by decide +kernel
theorem dX5_hangsLine_15 : decode cX5_hangsLine 15 = .ok (.putfield 158, 3) := by decide +kernel
theorem dX5_hangsLine_18 : decode cX5_hangsLine 18 = .ok (.aload_n 0, 1) := by decide +kernel
theorem dX5_hangsLine_19 : decode cX5_hangsLine 19 = .ok (.iconst 1, 1) := by decide +kernel
theorem dX5_hangsLine_20 : decode cX5_hangsLine 20 = .ok (.putfield 161, 3) := by decide +kernel
theorem dX5_hangsLine_23 : decode cX5_hangsLine 23 = .ok (.aload_n 0, 1) := by decide +kernel
theorem dX5_hangsLine_24 : decode cX5_hangsLine 24 = .ok (.iconst 0, 1) := by decide +kernel
theorem dX5_hangsLine_25 : decode cX5_hangsLine 25 = .ok (.invokevirtual 165, 3) := by decide +kernel
theorem dX5_hangsLine_28 : decode cX5_hangsLine 28 = .ok (.aload_n 0, 1) := by decide +kernel
theorem dX5_hangsLine_29 : decode cX5_hangsLine 29 = .ok (.getfield 41, 3) := by decide +kernel
theorem dX5_hangsLine_32 : decode cX5_hangsLine 32 = .ok (.ifCond .ne 25, 3) := by decide +kernel
theorem dX5_hangsLine_35 : decode cX5_hangsLine 35 = .ok (.aload_n 0, 1) := by decide +kernel
theorem dX5_hangsLine_36 : decode cX5_hangsLine 36 = .ok (.getfield 31, 3) := by decide +kernel
theorem dX5_hangsLine_39 : decode cX5_hangsLine 39 = .ok (.new 168, 3) := by decide +kernel
theorem dX5_hangsLine_42 : decode cX5_hangsLine 42 = .ok (.dup, 1) := by decide +kernel
theorem dX5_hangsLine_43 : decode cX5_hangsLine 43 = .ok (.aload_n 0, 1) := by decide +kernel
theorem dX5_hangsLine_44 : decode cX5_hangsLine 44 = .ok (.getfield 18, 3) := by decide +kernel
theorem dX5_hangsLine_47 : decode cX5_hangsLine 47 = .ok (.aload_n 0, 1) := by decide +kernel
theorem dX5_hangsLine_48 : decode cX5_hangsLine 48 = .ok (.getfield 158, 3) := by decide +kernel
theorem dX5_hangsLine_51 : decode cX5_hangsLine 51 = .ok (.invokespecial 170, 3) := by decide +kernel
theorem dX5_hangsLine_54 : decode cX5_hangsLine 54 = .ok (.putfield 173, 3) := by decide +kernel
theorem dX5_hangsLine_57 : decode cX5_hangsLine 57 = .ok (.return_, 1) := by decide +kernel
theorem dX5_freesLine_0 : decode cX5_freesLine 0 = .ok (.aload_n 0, 1) := by decide +kernel
theorem dX5_freesLine_1 : decode cX5_freesLine 1 = .ok (.getfield 12, 3) := by decide +kernel
theorem dX5_freesLine_4 : decode cX5_freesLine 4 = .ok (.invokevirtual 70, 3) := by decide +kernel
theorem dX5_freesLine_7 : decode cX5_freesLine 7 = .ok (.aload_n 0, 1) := by decide +kernel
theorem dX5_freesLine_8 : decode cX5_freesLine 8 = .ok (.bipush 58, 2) := by decide +kernel
theorem dX5_freesLine_10 : decode cX5_freesLine 10 = .ok (.invokevirtual 99, 3) := by decide +kernel
theorem dX5_freesLine_13 : decode cX5_freesLine 13 = .ok (.aload_n 0, 1) := by decide +kernel
theorem dX5_freesLine_14 : decode cX5_freesLine 14 = .ok (.iconst 0, 1) := by decide +kernel
theorem dX5_freesLine_15 : decode cX5_freesLine 15 = .ok (.putfield 158, 3) := by decide +kernel
theorem dX5_freesLine_18 : decode cX5_freesLine 18 = .ok (.aload_n 0, 1) := by decide +kernel
theorem dX5_freesLine_19 : decode cX5_freesLine 19 = .ok (.iconst 0, 1) := by decide +kernel
theorem dX5_freesLine_20 : decode cX5_freesLine 20 = .ok (.putfield 161, 3) := by decide +kernel
theorem dX5_freesLine_23 : decode cX5_freesLine 23 = .ok (.aload_n 0, 1) := by decide +kernel
theorem dX5_freesLine_24 : decode cX5_freesLine 24 = .ok (.iconst 0, 1) := by decide +kernel
theorem dX5_freesLine_25 : decode cX5_freesLine 25 = .ok (.invokevirtual 177, 3) := by decide +kernel
theorem dX5_freesLine_28 : decode cX5_freesLine 28 = .ok (.aload_n 0, 1) := by decide +kernel
theorem dX5_freesLine_29 : decode cX5_freesLine 29 = .ok (.getfield 41, 3) := by decide +kernel
theorem dX5_freesLine_32 : decode cX5_freesLine 32 = .ok (.ifCond .ne 25, 3) := by decide +kernel
theorem dX5_freesLine_35 : decode cX5_freesLine 35 = .ok (.aload_n 0, 1) := by decide +kernel
theorem dX5_freesLine_36 : decode cX5_freesLine 36 = .ok (.getfield 31, 3) := by decide +kernel
theorem dX5_freesLine_39 : decode cX5_freesLine 39 = .ok (.new 168, 3) := by decide +kernel
theorem dX5_freesLine_42 : decode cX5_freesLine 42 = .ok (.dup, 1) := by decide +kernel
theorem dX5_freesLine_43 : decode cX5_freesLine 43 = .ok (.aload_n 0, 1) := by decide +kernel
theorem dX5_freesLine_44 : decode cX5_freesLine 44 = .ok (.getfield 18, 3) := by decide +kernel
theorem dX5_freesLine_47 : decode cX5_freesLine 47 = .ok (.aload_n 0, 1) := by decide +kernel
theorem dX5_freesLine_48 : decode cX5_freesLine 48 = .ok (.getfield 158, 3) := by decide +kernel
theorem dX5_freesLine_51 : decode cX5_freesLine 51 = .ok (.invokespecial 170, 3) := by decide +kernel
theorem dX5_freesLine_54 : decode cX5_freesLine 54 = .ok (.putfield 180, 3) := by decide +kernel
theorem dX5_freesLine_57 : decode cX5_freesLine 57 = .ok (.return_, 1) := by decide +kernel
theorem dX5_emit_0 : decode cX5_emit 0 = .ok (.aload_n 0, 1) := by decide +kernel
theorem dX5_emit_1 : decode cX5_emit 1 = .ok (.getfield 158, 3) := by decide +kernel
theorem dX5_emit_4 : decode cX5_emit 4 = .ok (.aload_n 0, 1) := by decide +kernel
theorem dX5_emit_5 : decode cX5_emit 5 = .ok (.getfield 18, 3) := by decide +kernel
theorem dX5_emit_8 : decode cX5_emit 8 = .ok (.arraylength, 1) := by decide +kernel
theorem dX5_emit_9 : decode cX5_emit 9 = .ok (.if_icmp .ge 23, 3) := by decide +kernel
theorem dX5_emit_12 : decode cX5_emit 12 = .ok (.aload_n 0, 1) := by decide +kernel
theorem dX5_emit_13 : decode cX5_emit 13 = .ok (.getfield 18, 3) := by decide +kernel
theorem dX5_emit_16 : decode cX5_emit 16 = .ok (.aload_n 0, 1) := by decide +kernel
theorem dX5_emit_17 : decode cX5_emit 17 = .ok (.getfield 158, 3) := by decide +kernel
theorem dX5_emit_20 : decode cX5_emit 20 = .ok (.iload_n 1, 1) := by decide +kernel
theorem dX5_emit_21 : decode cX5_emit 21 = .ok (.iastore, 1) := by decide +kernel
theorem dX5_emit_22 : decode cX5_emit 22 = .ok (.aload_n 0, 1) := by decide +kernel
theorem dX5_emit_23 : decode cX5_emit 23 = .ok (.dup, 1) := by decide +kernel
theorem dX5_emit_24 : decode cX5_emit 24 = .ok (.getfield 158, 3) := by decide +kernel
theorem dX5_emit_27 : decode cX5_emit 27 = .ok (.iconst 1, 1) := by decide +kernel
theorem dX5_emit_28 : decode cX5_emit 28 = .ok (.iadd, 1) := by decide +kernel
theorem dX5_emit_29 : decode cX5_emit 29 = .ok (.putfield 158, 3) := by decide +kernel
theorem dX5_emit_32 : decode cX5_emit 32 = .ok (.return_, 1) := by decide +kernel
theorem dX5_isTooDeep_0 : decode cX5_isTooDeep 0 = .ok (.iload_n 1, 1) := by decide +kernel
theorem dX5_isTooDeep_1 : decode cX5_isTooDeep 1 = .ok (.bipush 6, 2) := by decide +kernel
theorem dX5_isTooDeep_3 : decode cX5_isTooDeep 3 = .ok (.if_icmp .lt 8, 3) := by decide +kernel
theorem dX5_isTooDeep_6 : decode cX5_isTooDeep 6 = .ok (.aload_n 0, 1) := by decide +kernel
theorem dX5_isTooDeep_7 : decode cX5_isTooDeep 7 = .ok (.iconst 4, 1) := by decide +kernel
theorem dX5_isTooDeep_8 : decode cX5_isTooDeep 8 = .ok (.invokevirtual 80, 3) := by decide +kernel
theorem dX5_isTooDeep_11 : decode cX5_isTooDeep 11 = .ok (.iload_n 1, 1) := by decide +kernel
theorem dX5_isTooDeep_12 : decode cX5_isTooDeep 12 = .ok (.bipush 6, 2) := by decide +kernel
theorem dX5_isTooDeep_14 : decode cX5_isTooDeep 14 = .ok (.if_icmp .lt 7, 3) := by decide +kernel
theorem dX5_isTooDeep_17 : decode cX5_isTooDeep 17 = .ok (.iconst 1, 1) := by decide +kernel
theorem dX5_isTooDeep_18 : decode cX5_isTooDeep 18 = .ok (.goto 4, 3) := by decide +kernel
theorem dX5_isTooDeep_21 : decode cX5_isTooDeep 21 = .ok (.iconst 0, 1) := by decide +kernel
theorem dX5_isTooDeep_22 : decode cX5_isTooDeep 22 = .ok (.ireturn, 1) := by decide +kernel
theorem dX5_truth_0 : decode cX5_truth 0 = .ok (.iconst 1, 1) := by decide +kernel
theorem dX5_truth_1 : decode cX5_truth 1 = .ok (.istore_n 2, 1) := by decide +kernel
theorem dX5_truth_2 : decode cX5_truth 2 = .ok (.iconst 0, 1) := by decide +kernel
theorem dX5_truth_3 : decode cX5_truth 3 = .ok (.istore_n 3, 1) := by decide +kernel
theorem dX5_truth_4 : decode cX5_truth 4 = .ok (.iload_n 3, 1) := by decide +kernel
theorem dX5_truth_5 : decode cX5_truth 5 = .ok (.sipush 900, 3) := by decide +kernel
theorem dX5_truth_8 : decode cX5_truth 8 = .ok (.if_icmp .ge 108, 3) := by decide +kernel
theorem dX5_truth_11 : decode cX5_truth 11 = .ok (.iload_n 2, 1) := by decide +kernel
theorem dX5_truth_12 : decode cX5_truth 12 = .ok (.ifCond .eq 104, 3) := by decide +kernel
theorem dX5_truth_15 : decode cX5_truth 15 = .ok (.aload_n 0, 1) := by decide +kernel
theorem dX5_truth_16 : decode cX5_truth 16 = .ok (.iload_n 1, 1) := by decide +kernel
theorem dX5_truth_17 : decode cX5_truth 17 = .ok (.invokevirtual 183, 3) := by decide +kernel
theorem dX5_truth_20 : decode cX5_truth 20 = .ok (.iconst 0, 1) := by decide +kernel
theorem dX5_truth_21 : decode cX5_truth 21 = .ok (.istore 4, 2) := by decide +kernel
theorem dX5_truth_23 : decode cX5_truth 23 = .ok (.iload 4, 2) := by decide +kernel
theorem dX5_truth_25 : decode cX5_truth 25 = .ok (.sipush 900, 3) := by decide +kernel
theorem dX5_truth_28 : decode cX5_truth 28 = .ok (.if_icmp .ge 41, 3) := by decide +kernel
theorem dX5_truth_31 : decode cX5_truth 31 = .ok (.aload_n 0, 1) := by decide +kernel
theorem dX5_truth_32 : decode cX5_truth 32 = .ok (.getfield 12, 3) := by decide +kernel
theorem dX5_truth_35 : decode cX5_truth 35 = .ok (.getfield 55, 3) := by decide +kernel
theorem dX5_truth_38 : decode cX5_truth 38 = .ok (.sipush 211, 3) := by decide +kernel
theorem dX5_truth_41 : decode cX5_truth 41 = .ok (.if_icmp .ne 28, 3) := by decide +kernel
theorem dX5_truth_44 : decode cX5_truth 44 = .ok (.aload_n 0, 1) := by decide +kernel
theorem dX5_truth_45 : decode cX5_truth 45 = .ok (.getfield 12, 3) := by decide +kernel
theorem dX5_truth_48 : decode cX5_truth 48 = .ok (.invokevirtual 70, 3) := by decide +kernel
theorem dX5_truth_51 : decode cX5_truth 51 = .ok (.aload_n 0, 1) := by decide +kernel
theorem dX5_truth_52 : decode cX5_truth 52 = .ok (.iload_n 1, 1) := by decide +kernel
theorem dX5_truth_53 : decode cX5_truth 53 = .ok (.invokevirtual 183, 3) := by decide +kernel
theorem dX5_truth_56 : decode cX5_truth 56 = .ok (.aload_n 0, 1) := by decide +kernel
theorem dX5_truth_57 : decode cX5_truth 57 = .ok (.sipush 2007, 3) := by decide +kernel
theorem dX5_truth_60 : decode cX5_truth 60 = .ok (.invokevirtual 186, 3) := by decide +kernel
theorem dX5_truth_63 : decode cX5_truth 63 = .ok (.iinc 4 1, 3) := by decide +kernel
theorem dX5_truth_66 : decode cX5_truth 66 = .ok (.goto (-43), 3) := by decide +kernel
theorem dX5_truth_69 : decode cX5_truth 69 = .ok (.iload_n 3, 1) := by decide +kernel
theorem dX5_truth_70 : decode cX5_truth 70 = .ok (.ifCond .le 10, 3) := by decide +kernel
theorem dX5_truth_73 : decode cX5_truth 73 = .ok (.aload_n 0, 1) := by decide +kernel
theorem dX5_truth_74 : decode cX5_truth 74 = .ok (.sipush 2008, 3) := by decide +kernel
theorem dX5_truth_77 : decode cX5_truth 77 = .ok (.invokevirtual 186, 3) := by decide +kernel
theorem dX5_truth_80 : decode cX5_truth 80 = .ok (.aload_n 0, 1) := by decide +kernel
theorem dX5_truth_81 : decode cX5_truth 81 = .ok (.getfield 12, 3) := by decide +kernel
theorem dX5_truth_84 : decode cX5_truth 84 = .ok (.getfield 55, 3) := by decide +kernel
theorem dX5_truth_87 : decode cX5_truth 87 = .ok (.sipush 212, 3) := by decide +kernel
theorem dX5_truth_90 : decode cX5_truth 90 = .ok (.if_icmp .ne 7, 3) := by decide +kernel
theorem dX5_truth_93 : decode cX5_truth 93 = .ok (.iconst 1, 1) := by decide +kernel
theorem dX5_truth_94 : decode cX5_truth 94 = .ok (.goto 4, 3) := by decide +kernel
theorem dX5_truth_97 : decode cX5_truth 97 = .ok (.iconst 0, 1) := by decide +kernel
theorem dX5_truth_98 : decode cX5_truth 98 = .ok (.istore_n 2, 1) := by decide +kernel
theorem dX5_truth_99 : decode cX5_truth 99 = .ok (.iload_n 2, 1) := by decide +kernel
theorem dX5_truth_100 : decode cX5_truth 100 = .ok (.ifCond .eq 10, 3) := by decide +kernel
theorem dX5_truth_103 : decode cX5_truth 103 = .ok (.aload_n 0, 1) := by decide +kernel
theorem dX5_truth_104 : decode cX5_truth 104 = .ok (.getfield 12, 3) := by decide +kernel
theorem dX5_truth_107 : decode cX5_truth 107 = .ok (.invokevirtual 70, 3) := by decide +kernel
theorem dX5_truth_110 : decode cX5_truth 110 = .ok (.iinc 3 1, 3) := by decide +kernel
theorem dX5_truth_113 : decode cX5_truth 113 = .ok (.goto (-109), 3) := by decide +kernel
theorem dX5_truth_116 : decode cX5_truth 116 = .ok (.return_, 1) := by decide +kernel
theorem dX5_unit_0 : decode cX5_unit 0 = .ok (.aload_n 0, 1) := by decide +kernel
theorem dX5_unit_1 : decode cX5_unit 1 = .ok (.getfield 12, 3) := by decide +kernel
theorem dX5_unit_4 : decode cX5_unit 4 = .ok (.getfield 55, 3) := by decide +kernel
theorem dX5_unit_7 : decode cX5_unit 7 = .ok (.sipush 210, 3) := by decide +kernel
theorem dX5_unit_10 : decode cX5_unit 10 = .ok (.if_icmp .ne 35, 3) := by decide +kernel
theorem dX5_unit_13 : decode cX5_unit 13 = .ok (.aload_n 0, 1) := by decide +kernel
theorem dX5_unit_14 : decode cX5_unit 14 = .ok (.iload_n 1, 1) := by decide +kernel
theorem dX5_unit_15 : decode cX5_unit 15 = .ok (.invokevirtual 189, 3) := by decide +kernel
theorem dX5_unit_18 : decode cX5_unit 18 = .ok (.ifCond .ne 116, 3) := by decide +kernel
theorem dX5_unit_21 : decode cX5_unit 21 = .ok (.aload_n 0, 1) := by decide +kernel
theorem dX5_unit_22 : decode cX5_unit 22 = .ok (.getfield 12, 3) := by decide +kernel
theorem dX5_unit_25 : decode cX5_unit 25 = .ok (.invokevirtual 70, 3) := by decide +kernel
theorem dX5_unit_28 : decode cX5_unit 28 = .ok (.aload_n 0, 1) := by decide +kernel
theorem dX5_unit_29 : decode cX5_unit 29 = .ok (.iload_n 1, 1) := by decide +kernel
theorem dX5_unit_30 : decode cX5_unit 30 = .ok (.iconst 1, 1) := by decide +kernel
theorem dX5_unit_31 : decode cX5_unit 31 = .ok (.iadd, 1) := by decide +kernel
theorem dX5_unit_32 : decode cX5_unit 32 = .ok (.invokevirtual 183, 3) := by decide +kernel
theorem dX5_unit_35 : decode cX5_unit 35 = .ok (.aload_n 0, 1) := by decide +kernel
theorem dX5_unit_36 : decode cX5_unit 36 = .ok (.sipush 2000, 3) := by decide +kernel
theorem dX5_unit_39 : decode cX5_unit 39 = .ok (.invokevirtual 186, 3) := by decide +kernel
theorem dX5_unit_42 : decode cX5_unit 42 = .ok (.goto 92, 3) := by decide +kernel
theorem dX5_unit_45 : decode cX5_unit 45 = .ok (.aload_n 0, 1) := by decide +kernel
theorem dX5_unit_46 : decode cX5_unit 46 = .ok (.getfield 12, 3) := by decide +kernel
theorem dX5_unit_49 : decode cX5_unit 49 = .ok (.getfield 55, 3) := by decide +kernel
theorem dX5_unit_52 : decode cX5_unit 52 = .ok (.bipush 91, 2) := by decide +kernel
theorem dX5_unit_54 : decode cX5_unit 54 = .ok (.if_icmp .ne 34, 3) := by decide +kernel
theorem dX5_unit_57 : decode cX5_unit 57 = .ok (.aload_n 0, 1) := by decide +kernel
theorem dX5_unit_58 : decode cX5_unit 58 = .ok (.iload_n 1, 1) := by decide +kernel
theorem dX5_unit_59 : decode cX5_unit 59 = .ok (.invokevirtual 189, 3) := by decide +kernel
theorem dX5_unit_62 : decode cX5_unit 62 = .ok (.ifCond .ne 72, 3) := by decide +kernel
theorem dX5_unit_65 : decode cX5_unit 65 = .ok (.aload_n 0, 1) := by decide +kernel
theorem dX5_unit_66 : decode cX5_unit 66 = .ok (.getfield 12, 3) := by decide +kernel
theorem dX5_unit_69 : decode cX5_unit 69 = .ok (.invokevirtual 70, 3) := by decide +kernel
theorem dX5_unit_72 : decode cX5_unit 72 = .ok (.aload_n 0, 1) := by decide +kernel
theorem dX5_unit_73 : decode cX5_unit 73 = .ok (.iload_n 1, 1) := by decide +kernel
theorem dX5_unit_74 : decode cX5_unit 74 = .ok (.iconst 1, 1) := by decide +kernel
theorem dX5_unit_75 : decode cX5_unit 75 = .ok (.iadd, 1) := by decide +kernel
theorem dX5_unit_76 : decode cX5_unit 76 = .ok (.invokevirtual 177, 3) := by decide +kernel
theorem dX5_unit_79 : decode cX5_unit 79 = .ok (.aload_n 0, 1) := by decide +kernel
theorem dX5_unit_80 : decode cX5_unit 80 = .ok (.bipush 93, 2) := by decide +kernel
theorem dX5_unit_82 : decode cX5_unit 82 = .ok (.invokevirtual 99, 3) := by decide +kernel
theorem dX5_unit_85 : decode cX5_unit 85 = .ok (.goto 49, 3) := by decide +kernel
theorem dX5_unit_88 : decode cX5_unit 88 = .ok (.aload_n 0, 1) := by decide +kernel
theorem dX5_unit_89 : decode cX5_unit 89 = .ok (.iload_n 1, 1) := by decide +kernel
theorem dX5_unit_90 : decode cX5_unit 90 = .ok (.invokevirtual 165, 3) := by decide +kernel
theorem dX5_unit_93 : decode cX5_unit 93 = .ok (.aload_n 0, 1) := by decide +kernel
theorem dX5_unit_94 : decode cX5_unit 94 = .ok (.getfield 12, 3) := by decide +kernel
theorem dX5_unit_97 : decode cX5_unit 97 = .ok (.getfield 55, 3) := by decide +kernel
theorem dX5_unit_100 : decode cX5_unit 100 = .ok (.invokestatic 193, 3) := by decide +kernel
theorem dX5_unit_103 : decode cX5_unit 103 = .ok (.istore_n 2, 1) := by decide +kernel
theorem dX5_unit_104 : decode cX5_unit 104 = .ok (.iload_n 2, 1) := by decide +kernel
theorem dX5_unit_105 : decode cX5_unit 105 = .ok (.iconst (-1), 1) := by decide +kernel
theorem dX5_unit_106 : decode cX5_unit 106 = .ok (.if_icmp .ne 11, 3) := by decide +kernel
theorem dX5_unit_109 : decode cX5_unit 109 = .ok (.aload_n 0, 1) := by decide +kernel
theorem dX5_unit_110 : decode cX5_unit 110 = .ok (.iconst 2, 1) := by decide +kernel
theorem dX5_unit_111 : decode cX5_unit 111 = .ok (.invokevirtual 80, 3) := by decide +kernel
theorem dX5_unit_114 : decode cX5_unit 114 = .ok (.goto 20, 3) := by decide +kernel
theorem dX5_unit_117 : decode cX5_unit 117 = .ok (.aload_n 0, 1) := by decide +kernel
theorem dX5_unit_118 : decode cX5_unit 118 = .ok (.getfield 12, 3) := by decide +kernel
theorem dX5_unit_121 : decode cX5_unit 121 = .ok (.invokevirtual 70, 3) := by decide +kernel
theorem dX5_unit_124 : decode cX5_unit 124 = .ok (.aload_n 0, 1) := by decide +kernel
theorem dX5_unit_125 : decode cX5_unit 125 = .ok (.iload_n 1, 1) := by decide +kernel
theorem dX5_unit_126 : decode cX5_unit 126 = .ok (.invokevirtual 165, 3) := by decide +kernel
theorem dX5_unit_129 : decode cX5_unit 129 = .ok (.aload_n 0, 1) := by decide +kernel
theorem dX5_unit_130 : decode cX5_unit 130 = .ok (.iload_n 2, 1) := by decide +kernel
theorem dX5_unit_131 : decode cX5_unit 131 = .ok (.invokevirtual 186, 3) := by decide +kernel
theorem dX5_unit_134 : decode cX5_unit 134 = .ok (.return_, 1) := by decide +kernel
theorem dX5_comparison_0 : decode cX5_comparison 0 = .ok (.iload_n 0, 1) := by decide +kernel
theorem dX5_comparison_1 : decode cX5_comparison 1 = .ok (.tableswitch 39 60 62 #[31, 27, 35], 27) := by decide +kernel
theorem dX5_comparison_28 : decode cX5_comparison 28 = .ok (.sipush 2004, 3) := by decide +kernel
theorem dX5_comparison_31 : decode cX5_comparison 31 = .ok (.ireturn, 1) := by decide +kernel
theorem dX5_comparison_32 : decode cX5_comparison 32 = .ok (.sipush 2005, 3) := by decide +kernel
theorem dX5_comparison_35 : decode cX5_comparison 35 = .ok (.ireturn, 1) := by decide +kernel
theorem dX5_comparison_36 : decode cX5_comparison 36 = .ok (.sipush 2006, 3) := by decide +kernel
theorem dX5_comparison_39 : decode cX5_comparison 39 = .ok (.ireturn, 1) := by decide +kernel
theorem dX5_comparison_40 : decode cX5_comparison 40 = .ok (.iconst (-1), 1) := by decide +kernel
theorem dX5_comparison_41 : decode cX5_comparison 41 = .ok (.ireturn, 1) := by decide +kernel
theorem dX5_sum_0 : decode cX5_sum 0 = .ok (.iconst (-1), 1) := by decide +kernel
theorem dX5_sum_1 : decode cX5_sum 1 = .ok (.istore_n 2, 1) := by decide +kernel
theorem dX5_sum_2 : decode cX5_sum 2 = .ok (.iconst 1, 1) := by decide +kernel
theorem dX5_sum_3 : decode cX5_sum 3 = .ok (.istore_n 3, 1) := by decide +kernel
theorem dX5_sum_4 : decode cX5_sum 4 = .ok (.iconst 0, 1) := by decide +kernel
theorem dX5_sum_5 : decode cX5_sum 5 = .ok (.istore 4, 2) := by decide +kernel
theorem dX5_sum_7 : decode cX5_sum 7 = .ok (.iload 4, 2) := by decide +kernel
theorem dX5_sum_9 : decode cX5_sum 9 = .ok (.sipush 900, 3) := by decide +kernel
theorem dX5_sum_12 : decode cX5_sum 12 = .ok (.if_icmp .ge 139, 3) := by decide +kernel
theorem dX5_sum_15 : decode cX5_sum 15 = .ok (.iload_n 3, 1) := by decide +kernel
theorem dX5_sum_16 : decode cX5_sum 16 = .ok (.ifCond .eq 135, 3) := by decide +kernel
theorem dX5_sum_19 : decode cX5_sum 19 = .ok (.aload_n 0, 1) := by decide +kernel
theorem dX5_sum_20 : decode cX5_sum 20 = .ok (.iload_n 1, 1) := by decide +kernel
theorem dX5_sum_21 : decode cX5_sum 21 = .ok (.invokevirtual 196, 3) := by decide +kernel
theorem dX5_sum_24 : decode cX5_sum 24 = .ok (.iconst 0, 1) := by decide +kernel
theorem dX5_sum_25 : decode cX5_sum 25 = .ok (.istore 5, 2) := by decide +kernel
theorem dX5_sum_27 : decode cX5_sum 27 = .ok (.iload 5, 2) := by decide +kernel
theorem dX5_sum_29 : decode cX5_sum 29 = .ok (.sipush 900, 3) := by decide +kernel
theorem dX5_sum_32 : decode cX5_sum 32 = .ok (.if_icmp .ge 40, 3) := by decide +kernel
theorem dX5_sum_35 : decode cX5_sum 35 = .ok (.aload_n 0, 1) := by decide +kernel
theorem dX5_sum_36 : decode cX5_sum 36 = .ok (.getfield 12, 3) := by decide +kernel
theorem dX5_sum_39 : decode cX5_sum 39 = .ok (.getfield 55, 3) := by decide +kernel
theorem dX5_sum_42 : decode cX5_sum 42 = .ok (.bipush 42, 2) := by decide +kernel
theorem dX5_sum_44 : decode cX5_sum 44 = .ok (.if_icmp .ne 28, 3) := by decide +kernel
theorem dX5_sum_47 : decode cX5_sum 47 = .ok (.aload_n 0, 1) := by decide +kernel
theorem dX5_sum_48 : decode cX5_sum 48 = .ok (.getfield 12, 3) := by decide +kernel
theorem dX5_sum_51 : decode cX5_sum 51 = .ok (.invokevirtual 70, 3) := by decide +kernel
theorem dX5_sum_54 : decode cX5_sum 54 = .ok (.aload_n 0, 1) := by decide +kernel
theorem dX5_sum_55 : decode cX5_sum 55 = .ok (.iload_n 1, 1) := by decide +kernel
theorem dX5_sum_56 : decode cX5_sum 56 = .ok (.invokevirtual 196, 3) := by decide +kernel
theorem dX5_sum_59 : decode cX5_sum 59 = .ok (.aload_n 0, 1) := by decide +kernel
theorem dX5_sum_60 : decode cX5_sum 60 = .ok (.sipush 2003, 3) := by decide +kernel
theorem dX5_sum_63 : decode cX5_sum 63 = .ok (.invokevirtual 186, 3) := by decide +kernel
theorem dX5_sum_66 : decode cX5_sum 66 = .ok (.iinc 5 1, 3) := by decide +kernel
theorem dX5_sum_69 : decode cX5_sum 69 = .ok (.goto (-42), 3) := by decide +kernel
theorem dX5_sum_72 : decode cX5_sum 72 = .ok (.iload_n 2, 1) := by decide +kernel
theorem dX5_sum_73 : decode cX5_sum 73 = .ok (.iconst (-1), 1) := by decide +kernel
theorem dX5_sum_74 : decode cX5_sum 74 = .ok (.if_icmp .eq 8, 3) := by decide +kernel
theorem dX5_sum_77 : decode cX5_sum 77 = .ok (.aload_n 0, 1) := by decide +kernel
theorem dX5_sum_78 : decode cX5_sum 78 = .ok (.iload_n 2, 1) := by decide +kernel
theorem dX5_sum_79 : decode cX5_sum 79 = .ok (.invokevirtual 186, 3) := by decide +kernel
theorem dX5_sum_82 : decode cX5_sum 82 = .ok (.aload_n 0, 1) := by decide +kernel
theorem dX5_sum_83 : decode cX5_sum 83 = .ok (.getfield 12, 3) := by decide +kernel
theorem dX5_sum_86 : decode cX5_sum 86 = .ok (.getfield 55, 3) := by decide +kernel
theorem dX5_sum_89 : decode cX5_sum 89 = .ok (.bipush 43, 2) := by decide +kernel
theorem dX5_sum_91 : decode cX5_sum 91 = .ok (.if_icmp .eq 15, 3) := by decide +kernel
theorem dX5_sum_94 : decode cX5_sum 94 = .ok (.aload_n 0, 1) := by decide +kernel
theorem dX5_sum_95 : decode cX5_sum 95 = .ok (.getfield 12, 3) := by decide +kernel
theorem dX5_sum_98 : decode cX5_sum 98 = .ok (.getfield 55, 3) := by decide +kernel
theorem dX5_sum_101 : decode cX5_sum 101 = .ok (.bipush 45, 2) := by decide +kernel
theorem dX5_sum_103 : decode cX5_sum 103 = .ok (.if_icmp .ne 7, 3) := by decide +kernel
theorem dX5_sum_106 : decode cX5_sum 106 = .ok (.iconst 1, 1) := by decide +kernel
theorem dX5_sum_107 : decode cX5_sum 107 = .ok (.goto 4, 3) := by decide +kernel
theorem dX5_sum_110 : decode cX5_sum 110 = .ok (.iconst 0, 1) := by decide +kernel
theorem dX5_sum_111 : decode cX5_sum 111 = .ok (.istore_n 3, 1) := by decide +kernel
theorem dX5_sum_112 : decode cX5_sum 112 = .ok (.iload_n 3, 1) := by decide +kernel
theorem dX5_sum_113 : decode cX5_sum 113 = .ok (.ifCond .eq 32, 3) := by decide +kernel
theorem dX5_sum_116 : decode cX5_sum 116 = .ok (.aload_n 0, 1) := by decide +kernel
theorem dX5_sum_117 : decode cX5_sum 117 = .ok (.getfield 12, 3) := by decide +kernel
theorem dX5_sum_120 : decode cX5_sum 120 = .ok (.getfield 55, 3) := by decide +kernel
theorem dX5_sum_123 : decode cX5_sum 123 = .ok (.bipush 43, 2) := by decide +kernel
theorem dX5_sum_125 : decode cX5_sum 125 = .ok (.if_icmp .ne 9, 3) := by decide +kernel
theorem dX5_sum_128 : decode cX5_sum 128 = .ok (.sipush 2001, 3) := by decide +kernel
theorem dX5_sum_131 : decode cX5_sum 131 = .ok (.goto 6, 3) := by decide +kernel
theorem dX5_sum_134 : decode cX5_sum 134 = .ok (.sipush 2002, 3) := by decide +kernel
theorem dX5_sum_137 : decode cX5_sum 137 = .ok (.istore_n 2, 1) := by decide +kernel
theorem dX5_sum_138 : decode cX5_sum 138 = .ok (.aload_n 0, 1) := by decide +kernel
theorem dX5_sum_139 : decode cX5_sum 139 = .ok (.getfield 12, 3) := by decide +kernel
theorem dX5_sum_142 : decode cX5_sum 142 = .ok (.invokevirtual 70, 3) := by decide +kernel
theorem dX5_sum_145 : decode cX5_sum 145 = .ok (.iinc 4 1, 3) := by decide +kernel
theorem dX5_sum_148 : decode cX5_sum 148 = .ok (.goto (-141), 3) := by decide +kernel
theorem dX5_sum_151 : decode cX5_sum 151 = .ok (.return_, 1) := by decide +kernel
theorem dX5_atom_0 : decode cX5_atom 0 = .ok (.aload_n 0, 1) := by decide +kernel
theorem dX5_atom_1 : decode cX5_atom 1 = .ok (.getfield 12, 3) := by decide +kernel
theorem dX5_atom_4 : decode cX5_atom 4 = .ok (.getfield 55, 3) := by decide +kernel
theorem dX5_atom_7 : decode cX5_atom 7 = .ok (.bipush 40, 2) := by decide +kernel
theorem dX5_atom_9 : decode cX5_atom 9 = .ok (.if_icmp .ne 32, 3) := by decide +kernel
theorem dX5_atom_12 : decode cX5_atom 12 = .ok (.aload_n 0, 1) := by decide +kernel
theorem dX5_atom_13 : decode cX5_atom 13 = .ok (.iload_n 1, 1) := by decide +kernel
theorem dX5_atom_14 : decode cX5_atom 14 = .ok (.invokevirtual 189, 3) := by decide +kernel
theorem dX5_atom_17 : decode cX5_atom 17 = .ok (.ifCond .ne 23, 3) := by decide +kernel
theorem dX5_atom_20 : decode cX5_atom 20 = .ok (.aload_n 0, 1) := by decide +kernel
theorem dX5_atom_21 : decode cX5_atom 21 = .ok (.getfield 12, 3) := by decide +kernel
theorem dX5_atom_24 : decode cX5_atom 24 = .ok (.invokevirtual 70, 3) := by decide +kernel
theorem dX5_atom_27 : decode cX5_atom 27 = .ok (.aload_n 0, 1) := by decide +kernel
theorem dX5_atom_28 : decode cX5_atom 28 = .ok (.iload_n 1, 1) := by decide +kernel
theorem dX5_atom_29 : decode cX5_atom 29 = .ok (.iconst 1, 1) := by decide +kernel
theorem dX5_atom_30 : decode cX5_atom 30 = .ok (.iadd, 1) := by decide +kernel
theorem dX5_atom_31 : decode cX5_atom 31 = .ok (.invokevirtual 165, 3) := by decide +kernel
theorem dX5_atom_34 : decode cX5_atom 34 = .ok (.aload_n 0, 1) := by decide +kernel
theorem dX5_atom_35 : decode cX5_atom 35 = .ok (.bipush 41, 2) := by decide +kernel
theorem dX5_atom_37 : decode cX5_atom 37 = .ok (.invokevirtual 99, 3) := by decide +kernel
theorem dX5_atom_40 : decode cX5_atom 40 = .ok (.return_, 1) := by decide +kernel
theorem dX5_atom_41 : decode cX5_atom 41 = .ok (.aload_n 0, 1) := by decide +kernel
theorem dX5_atom_42 : decode cX5_atom 42 = .ok (.getfield 12, 3) := by decide +kernel
theorem dX5_atom_45 : decode cX5_atom 45 = .ok (.invokevirtual 95, 3) := by decide +kernel
theorem dX5_atom_48 : decode cX5_atom 48 = .ok (.ifCond .eq 17, 3) := by decide +kernel
theorem dX5_atom_51 : decode cX5_atom 51 = .ok (.aload_n 0, 1) := by decide +kernel
theorem dX5_atom_52 : decode cX5_atom 52 = .ok (.getfield 12, 3) := by decide +kernel
theorem dX5_atom_55 : decode cX5_atom 55 = .ok (.getfield 55, 3) := by decide +kernel
theorem dX5_atom_58 : decode cX5_atom 58 = .ok (.sipush 1000, 3) := by decide +kernel
theorem dX5_atom_61 : decode cX5_atom 61 = .ok (.isub, 1) := by decide +kernel
theorem dX5_atom_62 : decode cX5_atom 62 = .ok (.goto 14, 3) := by decide +kernel
theorem dX5_atom_65 : decode cX5_atom 65 = .ok (.aload_n 0, 1) := by decide +kernel
theorem dX5_atom_66 : decode cX5_atom 66 = .ok (.aload_n 0, 1) := by decide +kernel
theorem dX5_atom_67 : decode cX5_atom 67 = .ok (.getfield 12, 3) := by decide +kernel
theorem dX5_atom_70 : decode cX5_atom 70 = .ok (.getfield 55, 3) := by decide +kernel
theorem dX5_atom_73 : decode cX5_atom 73 = .ok (.invokevirtual 199, 3) := by decide +kernel
theorem dX5_atom_76 : decode cX5_atom 76 = .ok (.istore_n 2, 1) := by decide +kernel
theorem dX5_atom_77 : decode cX5_atom 77 = .ok (.iload_n 2, 1) := by decide +kernel
theorem dX5_atom_78 : decode cX5_atom 78 = .ok (.iconst (-1), 1) := by decide +kernel
theorem dX5_atom_79 : decode cX5_atom 79 = .ok (.if_icmp .ne 11, 3) := by decide +kernel
theorem dX5_atom_82 : decode cX5_atom 82 = .ok (.aload_n 0, 1) := by decide +kernel
theorem dX5_atom_83 : decode cX5_atom 83 = .ok (.iconst 2, 1) := by decide +kernel
theorem dX5_atom_84 : decode cX5_atom 84 = .ok (.invokevirtual 80, 3) := by decide +kernel
theorem dX5_atom_87 : decode cX5_atom 87 = .ok (.goto 15, 3) := by decide +kernel
theorem dX5_atom_90 : decode cX5_atom 90 = .ok (.aload_n 0, 1) := by decide +kernel
theorem dX5_atom_91 : decode cX5_atom 91 = .ok (.iload_n 2, 1) := by decide +kernel
theorem dX5_atom_92 : decode cX5_atom 92 = .ok (.invokevirtual 186, 3) := by decide +kernel
theorem dX5_atom_95 : decode cX5_atom 95 = .ok (.aload_n 0, 1) := by decide +kernel
theorem dX5_atom_96 : decode cX5_atom 96 = .ok (.getfield 12, 3) := by decide +kernel
theorem dX5_atom_99 : decode cX5_atom 99 = .ok (.invokevirtual 70, 3) := by decide +kernel
theorem dX5_atom_102 : decode cX5_atom 102 = .ok (.return_, 1) := by decide +kernel
theorem dX5_given_0 : decode cX5_given 0 = .ok (.iload_n 1, 1) := by decide +kernel
theorem dX5_given_1 : decode cX5_given 1 = .ok (.tableswitch 218 205 220 #[139, 79, 218, 218, 218, 218, 218, 218, 94, 109, 124, 143, 158, 173, 188, 203], 79) := by decide +kernel
theorem dX5_given_80 : decode cX5_given 80 = .ok (.aload_n 0, 1) := by decide +kernel
theorem dX5_given_81 : decode cX5_given 81 = .ok (.getfield 161, 3) := by decide +kernel
theorem dX5_given_84 : decode cX5_given 84 = .ok (.ifCond .eq 9, 3) := by decide +kernel
theorem dX5_given_87 : decode cX5_given 87 = .ok (.sipush 1000, 3) := by decide +kernel
theorem dX5_given_90 : decode cX5_given 90 = .ok (.goto 4, 3) := by decide +kernel
theorem dX5_given_93 : decode cX5_given 93 = .ok (.iconst (-1), 1) := by decide +kernel
theorem dX5_given_94 : decode cX5_given 94 = .ok (.ireturn, 1) := by decide +kernel
theorem dX5_given_95 : decode cX5_given 95 = .ok (.aload_n 0, 1) := by decide +kernel
theorem dX5_given_96 : decode cX5_given 96 = .ok (.getfield 161, 3) := by decide +kernel
theorem dX5_given_99 : decode cX5_given 99 = .ok (.ifCond .eq 9, 3) := by decide +kernel
theorem dX5_given_102 : decode cX5_given 102 = .ok (.sipush 1001, 3) := by decide +kernel
theorem dX5_given_105 : decode cX5_given 105 = .ok (.goto 4, 3) := by decide +kernel
theorem dX5_given_108 : decode cX5_given 108 = .ok (.iconst (-1), 1) := by decide +kernel
theorem dX5_given_109 : decode cX5_given 109 = .ok (.ireturn, 1) := by decide +kernel
theorem dX5_given_110 : decode cX5_given 110 = .ok (.aload_n 0, 1) := by decide +kernel
theorem dX5_given_111 : decode cX5_given 111 = .ok (.getfield 161, 3) := by decide +kernel
theorem dX5_given_114 : decode cX5_given 114 = .ok (.ifCond .eq 9, 3) := by decide +kernel
theorem dX5_given_117 : decode cX5_given 117 = .ok (.sipush 1002, 3) := by decide +kernel
theorem dX5_given_120 : decode cX5_given 120 = .ok (.goto 4, 3) := by decide +kernel
theorem dX5_given_123 : decode cX5_given 123 = .ok (.iconst (-1), 1) := by decide +kernel
theorem dX5_given_124 : decode cX5_given 124 = .ok (.ireturn, 1) := by decide +kernel
theorem dX5_given_125 : decode cX5_given 125 = .ok (.aload_n 0, 1) := by decide +kernel
theorem dX5_given_126 : decode cX5_given 126 = .ok (.getfield 161, 3) := by decide +kernel
theorem dX5_given_129 : decode cX5_given 129 = .ok (.ifCond .eq 9, 3) := by decide +kernel
theorem dX5_given_132 : decode cX5_given 132 = .ok (.sipush 1003, 3) := by decide +kernel
theorem dX5_given_135 : decode cX5_given 135 = .ok (.goto 4, 3) := by decide +kernel
theorem dX5_given_138 : decode cX5_given 138 = .ok (.iconst (-1), 1) := by decide +kernel
theorem dX5_given_139 : decode cX5_given 139 = .ok (.ireturn, 1) := by decide +kernel
theorem dX5_given_140 : decode cX5_given 140 = .ok (.sipush 1004, 3) := by decide +kernel
theorem dX5_given_143 : decode cX5_given 143 = .ok (.ireturn, 1) := by decide +kernel
theorem dX5_given_144 : decode cX5_given 144 = .ok (.aload_n 0, 1) := by decide +kernel
theorem dX5_given_145 : decode cX5_given 145 = .ok (.getfield 161, 3) := by decide +kernel
theorem dX5_given_148 : decode cX5_given 148 = .ok (.ifCond .eq 9, 3) := by decide +kernel
theorem dX5_given_151 : decode cX5_given 151 = .ok (.sipush 1005, 3) := by decide +kernel
theorem dX5_given_154 : decode cX5_given 154 = .ok (.goto 4, 3) := by decide +kernel
theorem dX5_given_157 : decode cX5_given 157 = .ok (.iconst (-1), 1) := by decide +kernel
theorem dX5_given_158 : decode cX5_given 158 = .ok (.ireturn, 1) := by decide +kernel
theorem dX5_given_159 : decode cX5_given 159 = .ok (.aload_n 0, 1) := by decide +kernel
theorem dX5_given_160 : decode cX5_given 160 = .ok (.getfield 161, 3) := by decide +kernel
theorem dX5_given_163 : decode cX5_given 163 = .ok (.ifCond .eq 7, 3) := by decide +kernel
theorem dX5_given_166 : decode cX5_given 166 = .ok (.iconst (-1), 1) := by decide +kernel
theorem dX5_given_167 : decode cX5_given 167 = .ok (.goto 6, 3) := by decide +kernel
theorem dX5_given_170 : decode cX5_given 170 = .ok (.sipush 1000, 3) := by decide +kernel
theorem dX5_given_173 : decode cX5_given 173 = .ok (.ireturn, 1) := by decide +kernel
theorem dX5_given_174 : decode cX5_given 174 = .ok (.aload_n 0, 1) := by decide +kernel
theorem dX5_given_175 : decode cX5_given 175 = .ok (.getfield 161, 3) := by decide +kernel
theorem dX5_given_178 : decode cX5_given 178 = .ok (.ifCond .eq 7, 3) := by decide +kernel
theorem dX5_given_181 : decode cX5_given 181 = .ok (.iconst (-1), 1) := by decide +kernel
theorem dX5_given_182 : decode cX5_given 182 = .ok (.goto 6, 3) := by decide +kernel
theorem dX5_given_185 : decode cX5_given 185 = .ok (.sipush 1001, 3) := by decide +kernel
theorem dX5_given_188 : decode cX5_given 188 = .ok (.ireturn, 1) := by decide +kernel
theorem dX5_given_189 : decode cX5_given 189 = .ok (.aload_n 0, 1) := by decide +kernel
theorem dX5_given_190 : decode cX5_given 190 = .ok (.getfield 161, 3) := by decide +kernel
theorem dX5_given_193 : decode cX5_given 193 = .ok (.ifCond .eq 7, 3) := by decide +kernel
theorem dX5_given_196 : decode cX5_given 196 = .ok (.iconst (-1), 1) := by decide +kernel
theorem dX5_given_197 : decode cX5_given 197 = .ok (.goto 6, 3) := by decide +kernel
theorem dX5_given_200 : decode cX5_given 200 = .ok (.sipush 1002, 3) := by decide +kernel
theorem dX5_given_203 : decode cX5_given 203 = .ok (.ireturn, 1) := by decide +kernel
theorem dX5_given_204 : decode cX5_given 204 = .ok (.aload_n 0, 1) := by decide +kernel
theorem dX5_given_205 : decode cX5_given 205 = .ok (.getfield 161, 3) := by decide +kernel
theorem dX5_given_208 : decode cX5_given 208 = .ok (.ifCond .eq 7, 3) := by decide +kernel
theorem dX5_given_211 : decode cX5_given 211 = .ok (.iconst (-1), 1) := by decide +kernel
theorem dX5_given_212 : decode cX5_given 212 = .ok (.goto 6, 3) := by decide +kernel
theorem dX5_given_215 : decode cX5_given 215 = .ok (.sipush 1003, 3) := by decide +kernel
theorem dX5_given_218 : decode cX5_given 218 = .ok (.ireturn, 1) := by decide +kernel
theorem dX5_given_219 : decode cX5_given 219 = .ok (.iconst (-1), 1) := by decide +kernel
theorem dX5_given_220 : decode cX5_given 220 = .ok (.ireturn, 1) := by decide +kernel
theorem dX5_countFromHour_0 : decode cX5_countFromHour 0 = .ok (.iconst 0, 1) := by decide +kernel
theorem dX5_countFromHour_1 : decode cX5_countFromHour 1 = .ok (.istore_n 1, 1) := by decide +kernel
theorem dX5_countFromHour_2 : decode cX5_countFromHour 2 = .ok (.iload_n 1, 1) := by decide +kernel
theorem dX5_countFromHour_3 : decode cX5_countFromHour 3 = .ok (.aload_n 0, 1) := by decide +kernel
theorem dX5_countFromHour_4 : decode cX5_countFromHour 4 = .ok (.getfield 31, 3) := by decide +kernel
theorem dX5_countFromHour_7 : decode cX5_countFromHour 7 = .ok (.getfield 111, 3) := by decide +kernel
theorem dX5_countFromHour_10 : decode cX5_countFromHour 10 = .ok (.if_icmp .ge 89, 3) := by decide +kernel
theorem dX5_countFromHour_13 : decode cX5_countFromHour 13 = .ok (.aload_n 0, 1) := by decide +kernel
theorem dX5_countFromHour_14 : decode cX5_countFromHour 14 = .ok (.getfield 27, 3) := by decide +kernel
theorem dX5_countFromHour_17 : decode cX5_countFromHour 17 = .ok (.getfield 126, 3) := by decide +kernel
theorem dX5_countFromHour_20 : decode cX5_countFromHour 20 = .ok (.iload_n 1, 1) := by decide +kernel
theorem dX5_countFromHour_21 : decode cX5_countFromHour 21 = .ok (.iaload, 1) := by decide +kernel
theorem dX5_countFromHour_22 : decode cX5_countFromHour 22 = .ok (.ifCond .ne 32, 3) := by decide +kernel
theorem dX5_countFromHour_25 : decode cX5_countFromHour 25 = .ok (.aload_n 0, 1) := by decide +kernel
theorem dX5_countFromHour_26 : decode cX5_countFromHour 26 = .ok (.getfield 27, 3) := by decide +kernel
theorem dX5_countFromHour_29 : decode cX5_countFromHour 29 = .ok (.getfield 129, 3) := by decide +kernel
theorem dX5_countFromHour_32 : decode cX5_countFromHour 32 = .ok (.iload_n 1, 1) := by decide +kernel
theorem dX5_countFromHour_33 : decode cX5_countFromHour 33 = .ok (.aload_n 0, 1) := by decide +kernel
theorem dX5_countFromHour_34 : decode cX5_countFromHour 34 = .ok (.getfield 27, 3) := by decide +kernel
theorem dX5_countFromHour_37 : decode cX5_countFromHour 37 = .ok (.getfield 77, 3) := by decide +kernel
theorem dX5_countFromHour_40 : decode cX5_countFromHour 40 = .ok (.aload_n 0, 1) := by decide +kernel
theorem dX5_countFromHour_41 : decode cX5_countFromHour 41 = .ok (.getfield 27, 3) := by decide +kernel
theorem dX5_countFromHour_44 : decode cX5_countFromHour 44 = .ok (.getfield 129, 3) := by decide +kernel
theorem dX5_countFromHour_47 : decode cX5_countFromHour 47 = .ok (.iload_n 1, 1) := by decide +kernel
theorem dX5_countFromHour_48 : decode cX5_countFromHour 48 = .ok (.iaload, 1) := by decide +kernel
theorem dX5_countFromHour_49 : decode cX5_countFromHour 49 = .ok (.isub, 1) := by decide +kernel
theorem dX5_countFromHour_50 : decode cX5_countFromHour 50 = .ok (.iastore, 1) := by decide +kernel
theorem dX5_countFromHour_51 : decode cX5_countFromHour 51 = .ok (.goto 42, 3) := by decide +kernel
theorem dX5_countFromHour_54 : decode cX5_countFromHour 54 = .ok (.aload_n 0, 1) := by decide +kernel
theorem dX5_countFromHour_55 : decode cX5_countFromHour 55 = .ok (.getfield 27, 3) := by decide +kernel
theorem dX5_countFromHour_58 : decode cX5_countFromHour 58 = .ok (.getfield 126, 3) := by decide +kernel
theorem dX5_countFromHour_61 : decode cX5_countFromHour 61 = .ok (.iload_n 1, 1) := by decide +kernel
theorem dX5_countFromHour_62 : decode cX5_countFromHour 62 = .ok (.iaload, 1) := by decide +kernel
theorem dX5_countFromHour_63 : decode cX5_countFromHour 63 = .ok (.iconst 1, 1) := by decide +kernel
theorem dX5_countFromHour_64 : decode cX5_countFromHour 64 = .ok (.if_icmp .ne 29, 3) := by decide +kernel
theorem dX5_countFromHour_67 : decode cX5_countFromHour 67 = .ok (.aload_n 0, 1) := by decide +kernel
theorem dX5_countFromHour_68 : decode cX5_countFromHour 68 = .ok (.getfield 27, 3) := by decide +kernel
theorem dX5_countFromHour_71 : decode cX5_countFromHour 71 = .ok (.getfield 129, 3) := by decide +kernel
theorem dX5_countFromHour_74 : decode cX5_countFromHour 74 = .ok (.iload_n 1, 1) := by decide +kernel
theorem dX5_countFromHour_75 : decode cX5_countFromHour 75 = .ok (.aload_n 0, 1) := by decide +kernel
theorem dX5_countFromHour_76 : decode cX5_countFromHour 76 = .ok (.getfield 27, 3) := by decide +kernel
theorem dX5_countFromHour_79 : decode cX5_countFromHour 79 = .ok (.getfield 77, 3) := by decide +kernel
theorem dX5_countFromHour_82 : decode cX5_countFromHour 82 = .ok (.aload_n 0, 1) := by decide +kernel
theorem dX5_countFromHour_83 : decode cX5_countFromHour 83 = .ok (.getfield 27, 3) := by decide +kernel
theorem dX5_countFromHour_86 : decode cX5_countFromHour 86 = .ok (.getfield 129, 3) := by decide +kernel
theorem dX5_countFromHour_89 : decode cX5_countFromHour 89 = .ok (.iload_n 1, 1) := by decide +kernel
theorem dX5_countFromHour_90 : decode cX5_countFromHour 90 = .ok (.iaload, 1) := by decide +kernel
theorem dX5_countFromHour_91 : decode cX5_countFromHour 91 = .ok (.iadd, 1) := by decide +kernel
theorem dX5_countFromHour_92 : decode cX5_countFromHour 92 = .ok (.iastore, 1) := by decide +kernel
theorem dX5_countFromHour_93 : decode cX5_countFromHour 93 = .ok (.iinc 1 1, 3) := by decide +kernel
theorem dX5_countFromHour_96 : decode cX5_countFromHour 96 = .ok (.goto (-94), 3) := by decide +kernel
theorem dX5_countFromHour_99 : decode cX5_countFromHour 99 = .ok (.return_, 1) := by decide +kernel
theorem dX6_init_0 : decode cX6_init 0 = .ok (.aload_n 0, 1) := by decide +kernel
theorem dX6_init_1 : decode cX6_init 1 = .ok (.invokespecial 3, 3) := by decide +kernel
theorem dX6_init_4 : decode cX6_init 4 = .ok (.aload_n 0, 1) := by decide +kernel
theorem dX6_init_5 : decode cX6_init 5 = .ok (.bipush 8, 2) := by decide +kernel
theorem dX6_init_7 : decode cX6_init 7 = .ok (.newarray .int, 2) := by decide +kernel
theorem dX6_init_9 : decode cX6_init 9 = .ok (.putfield 9, 3) := by decide +kernel
theorem dX6_init_12 : decode cX6_init 12 = .ok (.aload_n 0, 1) := by decide +kernel
theorem dX6_init_13 : decode cX6_init 13 = .ok (.bipush 8, 2) := by decide +kernel
theorem dX6_init_15 : decode cX6_init 15 = .ok (.newarray .int, 2) := by decide +kernel
theorem dX6_init_17 : decode cX6_init 17 = .ok (.putfield 15, 3) := by decide +kernel
theorem dX6_init_20 : decode cX6_init 20 = .ok (.aload_n 0, 1) := by decide +kernel
theorem dX6_init_21 : decode cX6_init 21 = .ok (.bipush 8, 2) := by decide +kernel
theorem dX6_init_23 : decode cX6_init 23 = .ok (.newarray .int, 2) := by decide +kernel
theorem dX6_init_25 : decode cX6_init 25 = .ok (.putfield 18, 3) := by decide +kernel
theorem dX6_init_28 : decode cX6_init 28 = .ok (.aload_n 0, 1) := by decide +kernel
theorem dX6_init_29 : decode cX6_init 29 = .ok (.bipush 8, 2) := by decide +kernel
theorem dX6_init_31 : decode cX6_init 31 = .ok (.newarray .int, 2) := by decide +kernel
theorem dX6_init_33 : decode cX6_init 33 = .ok (.putfield 21, 3) := by decide +kernel
theorem dX6_init_36 : decode cX6_init 36 = .ok (.aload_n 0, 1) := by decide +kernel
theorem dX6_init_37 : decode cX6_init 37 = .ok (.iconst 4, 1) := by decide +kernel
theorem dX6_init_38 : decode cX6_init 38 = .ok (.newarray .int, 2) := by decide +kernel
theorem dX6_init_40 : decode cX6_init 40 = .ok (.putfield 24, 3) := by decide +kernel
theorem dX6_init_43 : decode cX6_init 43 = .ok (.aload_n 0, 1) := by decide +kernel
theorem dX6_init_44 : decode cX6_init 44 = .ok (.aload_n 1, 1) := by decide +kernel
theorem dX6_init_45 : decode cX6_init 45 = .ok (.putfield 27, 3) := by decide +kernel
theorem dX6_init_48 : decode cX6_init 48 = .ok (.return_, 1) := by decide +kernel
theorem dX6_begin_0 : decode cX6_begin 0 = .ok (.aload_n 0, 1) := by decide +kernel
theorem dX6_begin_1 : decode cX6_begin 1 = .ok (.aload_n 1, 1) := by decide +kernel
theorem dX6_begin_2 : decode cX6_begin 2 = .ok (.putfield 27, 3) := by decide +kernel
theorem dX6_begin_5 : decode cX6_begin 5 = .ok (.aload_n 0, 1) := by decide +kernel
theorem dX6_begin_6 : decode cX6_begin 6 = .ok (.iconst 0, 1) := by decide +kernel
theorem dX6_begin_7 : decode cX6_begin 7 = .ok (.putfield 31, 3) := by decide +kernel
theorem dX6_begin_10 : decode cX6_begin 10 = .ok (.aload_n 0, 1) := by decide +kernel
theorem dX6_begin_11 : decode cX6_begin 11 = .ok (.iconst 0, 1) := by decide +kernel
theorem dX6_begin_12 : decode cX6_begin 12 = .ok (.putfield 35, 3) := by decide +kernel
theorem dX6_begin_15 : decode cX6_begin 15 = .ok (.iconst 0, 1) := by decide +kernel
theorem dX6_begin_16 : decode cX6_begin 16 = .ok (.istore_n 2, 1) := by decide +kernel
theorem dX6_begin_17 : decode cX6_begin 17 = .ok (.iload_n 2, 1) := by decide +kernel
theorem dX6_begin_18 : decode cX6_begin 18 = .ok (.iconst 4, 1) := by decide +kernel
theorem dX6_begin_19 : decode cX6_begin 19 = .ok (.if_icmp .ge 16, 3) := by decide +kernel
theorem dX6_begin_22 : decode cX6_begin 22 = .ok (.aload_n 0, 1) := by decide +kernel
theorem dX6_begin_23 : decode cX6_begin 23 = .ok (.getfield 24, 3) := by decide +kernel
theorem dX6_begin_26 : decode cX6_begin 26 = .ok (.iload_n 2, 1) := by decide +kernel
theorem dX6_begin_27 : decode cX6_begin 27 = .ok (.iconst 0, 1) := by decide +kernel
theorem dX6_begin_28 : decode cX6_begin 28 = .ok (.iastore, 1) := by decide +kernel
theorem dX6_begin_29 : decode cX6_begin 29 = .ok (.iinc 2 1, 3) := by decide +kernel
theorem dX6_begin_32 : decode cX6_begin 32 = .ok (.goto (-15), 3) := by decide +kernel
theorem dX6_begin_35 : decode cX6_begin 35 = .ok (.return_, 1) := by decide +kernel
theorem dX6_copyFrom_0 : decode cX6_copyFrom 0 = .ok (.aload_n 0, 1) := by decide +kernel
theorem dX6_copyFrom_1 : decode cX6_copyFrom 1 = .ok (.aload_n 1, 1) := by decide +kernel
theorem dX6_copyFrom_2 : decode cX6_copyFrom 2 = .ok (.getfield 27, 3) := by decide +kernel
theorem dX6_copyFrom_5 : decode cX6_copyFrom 5 = .ok (.putfield 27, 3) := by decide +kernel
theorem dX6_copyFrom_8 : decode cX6_copyFrom 8 = .ok (.aload_n 0, 1) := by decide +kernel
theorem dX6_copyFrom_9 : decode cX6_copyFrom 9 = .ok (.aload_n 1, 1) := by decide +kernel
theorem dX6_copyFrom_10 : decode cX6_copyFrom 10 = .ok (.getfield 31, 3) := by decide +kernel
theorem dX6_copyFrom_13 : decode cX6_copyFrom 13 = .ok (.putfield 31, 3) := by decide +kernel
theorem dX6_copyFrom_16 : decode cX6_copyFrom 16 = .ok (.aload_n 0, 1) := by decide +kernel
theorem dX6_copyFrom_17 : decode cX6_copyFrom 17 = .ok (.aload_n 1, 1) := by decide +kernel
theorem dX6_copyFrom_18 : decode cX6_copyFrom 18 = .ok (.getfield 35, 3) := by decide +kernel
theorem dX6_copyFrom_21 : decode cX6_copyFrom 21 = .ok (.putfield 35, 3) := by decide +kernel
theorem dX6_copyFrom_24 : decode cX6_copyFrom 24 = .ok (.aload_n 1, 1) := by decide +kernel
theorem dX6_copyFrom_25 : decode cX6_copyFrom 25 = .ok (.getfield 9, 3) := by decide +kernel
theorem dX6_copyFrom_28 : decode cX6_copyFrom 28 = .ok (.iconst 0, 1) := by decide +kernel
theorem dX6_copyFrom_29 : decode cX6_copyFrom 29 = .ok (.aload_n 0, 1) := by decide +kernel
theorem dX6_copyFrom_30 : decode cX6_copyFrom 30 = .ok (.getfield 9, 3) := by decide +kernel
theorem dX6_copyFrom_33 : decode cX6_copyFrom 33 = .ok (.iconst 0, 1) := by decide +kernel
theorem dX6_copyFrom_34 : decode cX6_copyFrom 34 = .ok (.bipush 8, 2) := by decide +kernel
theorem dX6_copyFrom_36 : decode cX6_copyFrom 36 = .ok (.invokestatic 38, 3) := by decide +kernel
theorem dX6_copyFrom_39 : decode cX6_copyFrom 39 = .ok (.aload_n 1, 1) := by decide +kernel
theorem dX6_copyFrom_40 : decode cX6_copyFrom 40 = .ok (.getfield 15, 3) := by decide +kernel
theorem dX6_copyFrom_43 : decode cX6_copyFrom 43 = .ok (.iconst 0, 1) := by decide +kernel
theorem dX6_copyFrom_44 : decode cX6_copyFrom 44 = .ok (.aload_n 0, 1) := by decide +kernel
theorem dX6_copyFrom_45 : decode cX6_copyFrom 45 = .ok (.getfield 15, 3) := by decide +kernel
theorem dX6_copyFrom_48 : decode cX6_copyFrom 48 = .ok (.iconst 0, 1) := by decide +kernel
theorem dX6_copyFrom_49 : decode cX6_copyFrom 49 = .ok (.bipush 8, 2) := by decide +kernel
theorem dX6_copyFrom_51 : decode cX6_copyFrom 51 = .ok (.invokestatic 38, 3) := by decide +kernel
theorem dX6_copyFrom_54 : decode cX6_copyFrom 54 = .ok (.aload_n 1, 1) := by decide +kernel
theorem dX6_copyFrom_55 : decode cX6_copyFrom 55 = .ok (.getfield 18, 3) := by decide +kernel
theorem dX6_copyFrom_58 : decode cX6_copyFrom 58 = .ok (.iconst 0, 1) := by decide +kernel
theorem dX6_copyFrom_59 : decode cX6_copyFrom 59 = .ok (.aload_n 0, 1) := by decide +kernel
theorem dX6_copyFrom_60 : decode cX6_copyFrom 60 = .ok (.getfield 18, 3) := by decide +kernel
theorem dX6_copyFrom_63 : decode cX6_copyFrom 63 = .ok (.iconst 0, 1) := by decide +kernel
theorem dX6_copyFrom_64 : decode cX6_copyFrom 64 = .ok (.bipush 8, 2) := by decide +kernel
theorem dX6_copyFrom_66 : decode cX6_copyFrom 66 = .ok (.invokestatic 38, 3) := by decide +kernel
theorem dX6_copyFrom_69 : decode cX6_copyFrom 69 = .ok (.aload_n 1, 1) := by decide +kernel
theorem dX6_copyFrom_70 : decode cX6_copyFrom 70 = .ok (.getfield 21, 3) := by decide +kernel
theorem dX6_copyFrom_73 : decode cX6_copyFrom 73 = .ok (.iconst 0, 1) := by decide +kernel
theorem dX6_copyFrom_74 : decode cX6_copyFrom 74 = .ok (.aload_n 0, 1) := by decide +kernel
theorem dX6_copyFrom_75 : decode cX6_copyFrom 75 = .ok (.getfield 21, 3) := by decide +kernel
theorem dX6_copyFrom_78 : decode cX6_copyFrom 78 = .ok (.iconst 0, 1) := by decide +kernel
theorem dX6_copyFrom_79 : decode cX6_copyFrom 79 = .ok (.bipush 8, 2) := by decide +kernel
theorem dX6_copyFrom_81 : decode cX6_copyFrom 81 = .ok (.invokestatic 38, 3) := by decide +kernel
theorem dX6_copyFrom_84 : decode cX6_copyFrom 84 = .ok (.aload_n 1, 1) := by decide +kernel
theorem dX6_copyFrom_85 : decode cX6_copyFrom 85 = .ok (.getfield 24, 3) := by decide +kernel
theorem dX6_copyFrom_88 : decode cX6_copyFrom 88 = .ok (.iconst 0, 1) := by decide +kernel
theorem dX6_copyFrom_89 : decode cX6_copyFrom 89 = .ok (.aload_n 0, 1) := by decide +kernel
theorem dX6_copyFrom_90 : decode cX6_copyFrom 90 = .ok (.getfield 24, 3) := by decide +kernel
theorem dX6_copyFrom_93 : decode cX6_copyFrom 93 = .ok (.iconst 0, 1) := by decide +kernel
theorem dX6_copyFrom_94 : decode cX6_copyFrom 94 = .ok (.iconst 4, 1) := by decide +kernel
theorem dX6_copyFrom_95 : decode cX6_copyFrom 95 = .ok (.invokestatic 38, 3) := by decide +kernel
theorem dX6_copyFrom_98 : decode cX6_copyFrom 98 = .ok (.return_, 1) := by decide +kernel
theorem dX6_lying_0 : decode cX6_lying 0 = .ok (.iconst 0, 1) := by decide +kernel
theorem dX6_lying_1 : decode cX6_lying 1 = .ok (.istore_n 2, 1) := by decide +kernel
theorem dX6_lying_2 : decode cX6_lying 2 = .ok (.iconst 0, 1) := by decide +kernel
theorem dX6_lying_3 : decode cX6_lying 3 = .ok (.istore_n 3, 1) := by decide +kernel
theorem dX6_lying_4 : decode cX6_lying 4 = .ok (.iload_n 3, 1) := by decide +kernel
theorem dX6_lying_5 : decode cX6_lying 5 = .ok (.aload_n 0, 1) := by decide +kernel
theorem dX6_lying_6 : decode cX6_lying 6 = .ok (.getfield 27, 3) := by decide +kernel
