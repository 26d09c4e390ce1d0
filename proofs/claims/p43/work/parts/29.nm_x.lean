theorem dX0_hasPlace_0 : decode cX0_hasPlace 0 = .ok (.iload_n 1, 1) := by decide +kernel
theorem dX0_hasPlace_1 : decode cX0_hasPlace 1 = .ok (.ifCond .lt 27, 3) := by decide +kernel
theorem dX0_hasPlace_12 : decode cX0_hasPlace 12 = .ok (.iload_n 2, 1) := by decide +kernel
theorem dX0_hasPlace_13 : decode cX0_hasPlace 13 = .ok (.ifCond .lt 15, 3) := by decide +kernel
theorem dX0_hasPlace_16 : decode cX0_hasPlace 16 = .ok (.iload_n 2, 1) := by decide +kernel
theorem dX0_hasPlace_17 : decode cX0_hasPlace 17 = .ok (.aload_n 0, 1) := by decide +kernel
theorem dX0_hasPlace_18 : decode cX0_hasPlace 18 = .ok (.getfield 15, 3) := by decide +kernel
theorem dX0_hasPlace_21 : decode cX0_hasPlace 21 = .ok (.if_icmp .ge 7, 3) := by decide +kernel
theorem dX0_hasPlace_24 : decode cX0_hasPlace 24 = .ok (.iconst 1, 1) := by decide +kernel
theorem dX0_hasPlace_25 : decode cX0_hasPlace 25 = .ok (.goto 4, 3) := by decide +kernel
theorem dX0_hasPlace_28 : decode cX0_hasPlace 28 = .ok (.iconst 0, 1) := by decide +kernel
theorem dX0_hasPlace_29 : decode cX0_hasPlace 29 = .ok (.ireturn, 1) := by decide +kernel
theorem dX0_hasPlace_4 : decode cX0_hasPlace 4 = .ok (.iload_n 1, 1) := by decide +kernel
theorem dX0_hasPlace_5 : decode cX0_hasPlace 5 = .ok (.aload_n 0, 1) := by decide +kernel
theorem dX0_hasPlace_6 : decode cX0_hasPlace 6 = .ok (.getfield 9, 3) := by decide +kernel
theorem dX0_hasPlace_9 : decode cX0_hasPlace 9 = .ok (.if_icmp .ge 19, 3) := by decide +kernel
theorem dX6_begin_0 : decode cX6_begin 0 = .ok (.aload_n 0, 1) := by decide +kernel
theorem dX6_begin_1 : decode cX6_begin 1 = .ok (.aload_n 1, 1) := by decide +kernel
theorem dX6_begin_10 : decode cX6_begin 10 = .ok (.aload_n 0, 1) := by decide +kernel
theorem dX6_begin_11 : decode cX6_begin 11 = .ok (.iconst 0, 1) := by decide +kernel
theorem dX6_begin_12 : decode cX6_begin 12 = .ok (.putfield 35, 3) := by decide +kernel
theorem dX6_begin_15 : decode cX6_begin 15 = .ok (.iconst 0, 1) := by decide +kernel
theorem dX6_begin_16 : decode cX6_begin 16 = .ok (.istore_n 2, 1) := by decide +kernel
theorem dX6_begin_17 : decode cX6_begin 17 = .ok (.iload_n 2, 1) := by decide +kernel
theorem dX6_begin_18 : decode cX6_begin 18 = .ok (.iconst 4, 1) := by decide +kernel
theorem dX6_begin_19 : decode cX6_begin 19 = .ok (.if_icmp .ge 16, 3) := by decide +kernel
theorem dX6_begin_2 : decode cX6_begin 2 = .ok (.putfield 27, 3) := by decide +kernel
theorem dX6_begin_22 : decode cX6_begin 22 = .ok (.aload_n 0, 1) := by decide +kernel
theorem dX6_begin_23 : decode cX6_begin 23 = .ok (.getfield 24, 3) := by decide +kernel
theorem dX6_begin_26 : decode cX6_begin 26 = .ok (.iload_n 2, 1) := by decide +kernel
theorem dX6_begin_27 : decode cX6_begin 27 = .ok (.iconst 0, 1) := by decide +kernel
theorem dX6_begin_28 : decode cX6_begin 28 = .ok (.iastore, 1) := by decide +kernel
theorem dX6_begin_29 : decode cX6_begin 29 = .ok (.iinc 2 1, 3) := by decide +kernel
theorem dX6_begin_32 : decode cX6_begin 32 = .ok (.goto (-15), 3) := by decide +kernel
theorem dX6_begin_35 : decode cX6_begin 35 = .ok (.return_, 1) := by decide +kernel
theorem dX6_begin_5 : decode cX6_begin 5 = .ok (.aload_n 0, 1) := by decide +kernel
theorem dX6_begin_6 : decode cX6_begin 6 = .ok (.iconst 0, 1) := by decide +kernel
theorem dX6_begin_7 : decode cX6_begin 7 = .ok (.putfield 31, 3) := by decide +kernel
theorem dX6_copyFrom_0 : decode cX6_copyFrom 0 = .ok (.aload_n 0, 1) := by decide +kernel
theorem dX6_copyFrom_1 : decode cX6_copyFrom 1 = .ok (.aload_n 1, 1) := by decide +kernel
theorem dX6_copyFrom_10 : decode cX6_copyFrom 10 = .ok (.getfield 31, 3) := by decide +kernel
theorem dX6_copyFrom_13 : decode cX6_copyFrom 13 = .ok (.putfield 31, 3) := by decide +kernel
theorem dX6_copyFrom_16 : decode cX6_copyFrom 16 = .ok (.aload_n 0, 1) := by decide +kernel
theorem dX6_copyFrom_17 : decode cX6_copyFrom 17 = .ok (.aload_n 1, 1) := by decide +kernel
theorem dX6_copyFrom_18 : decode cX6_copyFrom 18 = .ok (.getfield 35, 3) := by decide +kernel
theorem dX6_copyFrom_2 : decode cX6_copyFrom 2 = .ok (.getfield 27, 3) := by decide +kernel
theorem dX6_copyFrom_21 : decode cX6_copyFrom 21 = .ok (.putfield 35, 3) := by decide +kernel
theorem dX6_copyFrom_24 : decode cX6_copyFrom 24 = .ok (.aload_n 1, 1) := by decide +kernel
theorem dX6_copyFrom_25 : decode cX6_copyFrom 25 = .ok (.getfield 9, 3) := by decide +kernel
theorem dX6_copyFrom_28 : decode cX6_copyFrom 28 = .ok (.iconst 0, 1) := by decide +kernel
theorem dX6_copyFrom_29 : decode cX6_copyFrom 29 = .ok (.aload_n 0, 1) := by decide +kernel
theorem dX6_copyFrom_30 : decode cX6_copyFrom 30 = .ok (.getfield 9, 3) := by decide +kernel
theorem dX6_copyFrom_33 : decode cX6_copyFrom 33 = .ok (.iconst 0, 1) := by decide +kernel
theorem dX6_copyFrom_34 : decode cX6_copyFrom 34 = .ok (.bipush 8, 2) := by decide +kernel
theorem dX6_copyFrom_36 : decode cX6_copyFrom 36 = .ok (.invokestatic 38, 3) := by decide +kernel
theorem dX6_copyFrom_39 : decode cX6_copyFrom 39 = .ok (.aload_n 1, 1) := by decide +kernel
theorem dX6_copyFrom_40 : decode cX6_copyFrom 40 = .ok (.getfield 15, 3) := by decide +kernel
theorem dX6_copyFrom_43 : decode cX6_copyFrom 43 = .ok (.iconst 0, 1) := by decide +kernel
theorem dX6_copyFrom_44 : decode cX6_copyFrom 44 = .ok (.aload_n 0, 1) := by decide +kernel
theorem dX6_copyFrom_45 : decode cX6_copyFrom 45 = .ok (.getfield 15, 3) := by decide +kernel
theorem dX6_copyFrom_48 : decode cX6_copyFrom 48 = .ok (.iconst 0, 1) := by decide +kernel
theorem dX6_copyFrom_49 : decode cX6_copyFrom 49 = .ok (.bipush 8, 2) := by decide +kernel
theorem dX6_copyFrom_5 : decode cX6_copyFrom 5 = .ok (.putfield 27, 3) := by decide +kernel
theorem dX6_copyFrom_51 : decode cX6_copyFrom 51 = .ok (.invokestatic 38, 3) := by decide +kernel
theorem dX6_copyFrom_54 : decode cX6_copyFrom 54 = .ok (.aload_n 1, 1) := by decide +kernel
theorem dX6_copyFrom_55 : decode cX6_copyFrom 55 = .ok (.getfield 18, 3) := by decide +kernel
theorem dX6_copyFrom_58 : decode cX6_copyFrom 58 = .ok (.iconst 0, 1) := by decide +kernel
theorem dX6_copyFrom_59 : decode cX6_copyFrom 59 = .ok (.aload_n 0, 1) := by decide +kernel
theorem dX6_copyFrom_60 : decode cX6_copyFrom 60 = .ok (.getfield 18, 3) := by decide +kernel
theorem dX6_copyFrom_63 : decode cX6_copyFrom 63 = .ok (.iconst 0, 1) := by decide +kernel
theorem dX6_copyFrom_64 : decode cX6_copyFrom 64 = .ok (.bipush 8, 2) := by decide +kernel
theorem dX6_copyFrom_66 : decode cX6_copyFrom 66 = .ok (.invokestatic 38, 3) := by decide +kernel
theorem dX6_copyFrom_69 : decode cX6_copyFrom 69 = .ok (.aload_n 1, 1) := by decide +kernel
theorem dX6_copyFrom_70 : decode cX6_copyFrom 70 = .ok (.getfield 21, 3) := by decide +kernel
theorem dX6_copyFrom_73 : decode cX6_copyFrom 73 = .ok (.iconst 0, 1) := by decide +kernel
theorem dX6_copyFrom_74 : decode cX6_copyFrom 74 = .ok (.aload_n 0, 1) := by decide +kernel
theorem dX6_copyFrom_75 : decode cX6_copyFrom 75 = .ok (.getfield 21, 3) := by decide +kernel
theorem dX6_copyFrom_78 : decode cX6_copyFrom 78 = .ok (.iconst 0, 1) := by decide +kernel
theorem dX6_copyFrom_79 : decode cX6_copyFrom 79 = .ok (.bipush 8, 2) := by decide +kernel
theorem dX6_copyFrom_8 : decode cX6_copyFrom 8 = .ok (.aload_n 0, 1) := by decide +kernel
theorem dX6_copyFrom_81 : decode cX6_copyFrom 81 = .ok (.invokestatic 38, 3) := by decide +kernel
theorem dX6_copyFrom_84 : decode cX6_copyFrom 84 = .ok (.aload_n 1, 1) := by decide +kernel
theorem dX6_copyFrom_85 : decode cX6_copyFrom 85 = .ok (.getfield 24, 3) := by decide +kernel
theorem dX6_copyFrom_88 : decode cX6_copyFrom 88 = .ok (.iconst 0, 1) := by decide +kernel
theorem dX6_copyFrom_89 : decode cX6_copyFrom 89 = .ok (.aload_n 0, 1) := by decide +kernel
theorem dX6_copyFrom_9 : decode cX6_copyFrom 9 = .ok (.aload_n 1, 1) := by decide +kernel
theorem dX6_copyFrom_90 : decode cX6_copyFrom 90 = .ok (.getfield 24, 3) := by decide +kernel
theorem dX6_copyFrom_93 : decode cX6_copyFrom 93 = .ok (.iconst 0, 1) := by decide +kernel
theorem dX6_copyFrom_94 : decode cX6_copyFrom 94 = .ok (.iconst 4, 1) := by decide +kernel
theorem dX6_copyFrom_95 : decode cX6_copyFrom 95 = .ok (.invokestatic 38, 3) := by decide +kernel
theorem dX6_copyFrom_98 : decode cX6_copyFrom 98 = .ok (.return_, 1) := by decide +kernel
theorem dX6_countOf_0 : decode cX6_countOf 0 = .ok (.iconst 0, 1) := by decide +kernel
theorem dX6_countOf_1 : decode cX6_countOf 1 = .ok (.istore_n 2, 1) := by decide +kernel
theorem dX6_countOf_12 : decode cX6_countOf 12 = .ok (.if_icmp .ge 22, 3) := by decide +kernel
theorem dX6_countOf_15 : decode cX6_countOf 15 = .ok (.aload_n 0, 1) := by decide +kernel
theorem dX6_countOf_16 : decode cX6_countOf 16 = .ok (.getfield 9, 3) := by decide +kernel
theorem dX6_countOf_19 : decode cX6_countOf 19 = .ok (.iload_n 3, 1) := by decide +kernel
theorem dX6_countOf_2 : decode cX6_countOf 2 = .ok (.iconst 0, 1) := by decide +kernel
theorem dX6_countOf_20 : decode cX6_countOf 20 = .ok (.iaload, 1) := by decide +kernel
theorem dX6_countOf_21 : decode cX6_countOf 21 = .ok (.iload_n 1, 1) := by decide +kernel
theorem dX6_countOf_22 : decode cX6_countOf 22 = .ok (.if_icmp .ne 6, 3) := by decide +kernel
theorem dX6_countOf_25 : decode cX6_countOf 25 = .ok (.iinc 2 1, 3) := by decide +kernel
theorem dX6_countOf_28 : decode cX6_countOf 28 = .ok (.iinc 3 1, 3) := by decide +kernel
theorem dX6_countOf_3 : decode cX6_countOf 3 = .ok (.istore_n 3, 1) := by decide +kernel
theorem dX6_countOf_31 : decode cX6_countOf 31 = .ok (.goto (-27), 3) := by decide +kernel
theorem dX6_countOf_34 : decode cX6_countOf 34 = .ok (.iload_n 2, 1) := by decide +kernel
theorem dX6_countOf_35 : decode cX6_countOf 35 = .ok (.ireturn, 1) := by decide +kernel
theorem dX6_countOf_4 : decode cX6_countOf 4 = .ok (.iload_n 3, 1) := by decide +kernel
theorem dX6_countOf_5 : decode cX6_countOf 5 = .ok (.aload_n 0, 1) := by decide +kernel
theorem dX6_countOf_6 : decode cX6_countOf 6 = .ok (.getfield 27, 3) := by decide +kernel
theorem dX6_countOf_9 : decode cX6_countOf 9 = .ok (.getfield 44, 3) := by decide +kernel
theorem dX6_dueIn_0 : decode cX6_dueIn 0 = .ok (.iconst 0, 1) := by decide +kernel
theorem dX6_dueIn_1 : decode cX6_dueIn 1 = .ok (.istore_n 3, 1) := by decide +kernel
theorem dX6_dueIn_11 : decode cX6_dueIn 11 = .ok (.getfield 44, 3) := by decide +kernel
theorem dX6_dueIn_14 : decode cX6_dueIn 14 = .ok (.if_icmp .ge 49, 3) := by decide +kernel
theorem dX6_dueIn_17 : decode cX6_dueIn 17 = .ok (.aload_n 0, 1) := by decide +kernel
theorem dX6_dueIn_18 : decode cX6_dueIn 18 = .ok (.getfield 9, 3) := by decide +kernel
theorem dX6_dueIn_2 : decode cX6_dueIn 2 = .ok (.iconst 0, 1) := by decide +kernel
theorem dX6_dueIn_21 : decode cX6_dueIn 21 = .ok (.iload 4, 2) := by decide +kernel
theorem dX6_dueIn_23 : decode cX6_dueIn 23 = .ok (.iaload, 1) := by decide +kernel
theorem dX6_dueIn_24 : decode cX6_dueIn 24 = .ok (.iconst 1, 1) := by decide +kernel
theorem dX6_dueIn_25 : decode cX6_dueIn 25 = .ok (.if_icmp .ne 32, 3) := by decide +kernel
theorem dX6_dueIn_28 : decode cX6_dueIn 28 = .ok (.aload_n 0, 1) := by decide +kernel
theorem dX6_dueIn_29 : decode cX6_dueIn 29 = .ok (.getfield 15, 3) := by decide +kernel
theorem dX6_dueIn_3 : decode cX6_dueIn 3 = .ok (.istore 4, 2) := by decide +kernel
theorem dX6_dueIn_32 : decode cX6_dueIn 32 = .ok (.iload 4, 2) := by decide +kernel
theorem dX6_dueIn_34 : decode cX6_dueIn 34 = .ok (.iaload, 1) := by decide +kernel
theorem dX6_dueIn_35 : decode cX6_dueIn 35 = .ok (.iload_n 1, 1) := by decide +kernel
theorem dX6_dueIn_36 : decode cX6_dueIn 36 = .ok (.if_icmp .ne 21, 3) := by decide +kernel
theorem dX6_dueIn_39 : decode cX6_dueIn 39 = .ok (.aload_n 0, 1) := by decide +kernel
theorem dX6_dueIn_40 : decode cX6_dueIn 40 = .ok (.getfield 21, 3) := by decide +kernel
theorem dX6_dueIn_43 : decode cX6_dueIn 43 = .ok (.iload 4, 2) := by decide +kernel
theorem dX6_dueIn_45 : decode cX6_dueIn 45 = .ok (.iaload, 1) := by decide +kernel
theorem dX6_dueIn_46 : decode cX6_dueIn 46 = .ok (.iload_n 2, 1) := by decide +kernel
theorem dX6_dueIn_47 : decode cX6_dueIn 47 = .ok (.if_icmp .gt 10, 3) := by decide +kernel
theorem dX6_dueIn_5 : decode cX6_dueIn 5 = .ok (.iload 4, 2) := by decide +kernel
theorem dX6_dueIn_50 : decode cX6_dueIn 50 = .ok (.iload_n 3, 1) := by decide +kernel
theorem dX6_dueIn_51 : decode cX6_dueIn 51 = .ok (.iconst 1, 1) := by decide +kernel
theorem dX6_dueIn_52 : decode cX6_dueIn 52 = .ok (.iload 4, 2) := by decide +kernel
theorem dX6_dueIn_54 : decode cX6_dueIn 54 = .ok (.ishl, 1) := by decide +kernel
theorem dX6_dueIn_55 : decode cX6_dueIn 55 = .ok (.ior, 1) := by decide +kernel
theorem dX6_dueIn_56 : decode cX6_dueIn 56 = .ok (.istore_n 3, 1) := by decide +kernel
theorem dX6_dueIn_57 : decode cX6_dueIn 57 = .ok (.iinc 4 1, 3) := by decide +kernel
theorem dX6_dueIn_60 : decode cX6_dueIn 60 = .ok (.goto (-55), 3) := by decide +kernel
theorem dX6_dueIn_63 : decode cX6_dueIn 63 = .ok (.iload_n 3, 1) := by decide +kernel
theorem dX6_dueIn_64 : decode cX6_dueIn 64 = .ok (.ireturn, 1) := by decide +kernel
theorem dX6_dueIn_7 : decode cX6_dueIn 7 = .ok (.aload_n 0, 1) := by decide +kernel
theorem dX6_dueIn_8 : decode cX6_dueIn 8 = .ok (.getfield 27, 3) := by decide +kernel
theorem dX6_isFree_0 : decode cX6_isFree 0 = .ok (.iload_n 2, 1) := by decide +kernel
theorem dX6_isFree_1 : decode cX6_isFree 1 = .ok (.aload_n 0, 1) := by decide +kernel
theorem dX6_isFree_10 : decode cX6_isFree 10 = .ok (.iload_n 1, 1) := by decide +kernel
theorem dX6_isFree_11 : decode cX6_isFree 11 = .ok (.iload_n 2, 1) := by decide +kernel
theorem dX6_isFree_12 : decode cX6_isFree 12 = .ok (.invokevirtual 59, 3) := by decide +kernel
theorem dX6_isFree_15 : decode cX6_isFree 15 = .ok (.iconst (-1), 1) := by decide +kernel
theorem dX6_isFree_16 : decode cX6_isFree 16 = .ok (.if_icmp .ne 7, 3) := by decide +kernel
theorem dX6_isFree_19 : decode cX6_isFree 19 = .ok (.iconst 1, 1) := by decide +kernel
theorem dX6_isFree_2 : decode cX6_isFree 2 = .ok (.iload_n 1, 1) := by decide +kernel
theorem dX6_isFree_20 : decode cX6_isFree 20 = .ok (.goto 4, 3) := by decide +kernel
theorem dX6_isFree_23 : decode cX6_isFree 23 = .ok (.iconst 0, 1) := by decide +kernel
theorem dX6_isFree_24 : decode cX6_isFree 24 = .ok (.ireturn, 1) := by decide +kernel
theorem dX6_isFree_3 : decode cX6_isFree 3 = .ok (.invokevirtual 55, 3) := by decide +kernel
theorem dX6_isFree_6 : decode cX6_isFree 6 = .ok (.if_icmp .lt 17, 3) := by decide +kernel
theorem dX6_isFree_9 : decode cX6_isFree 9 = .ok (.aload_n 0, 1) := by decide +kernel
theorem dX6_lying_0 : decode cX6_lying 0 = .ok (.iconst 0, 1) := by decide +kernel
theorem dX6_lying_1 : decode cX6_lying 1 = .ok (.istore_n 2, 1) := by decide +kernel
theorem dX6_lying_12 : decode cX6_lying 12 = .ok (.if_icmp .ge 32, 3) := by decide +kernel
theorem dX6_lying_15 : decode cX6_lying 15 = .ok (.aload_n 0, 1) := by decide +kernel
theorem dX6_lying_16 : decode cX6_lying 16 = .ok (.getfield 9, 3) := by decide +kernel
theorem dX6_lying_19 : decode cX6_lying 19 = .ok (.iload_n 3, 1) := by decide +kernel
theorem dX6_lying_2 : decode cX6_lying 2 = .ok (.iconst 0, 1) := by decide +kernel
theorem dX6_lying_20 : decode cX6_lying 20 = .ok (.iaload, 1) := by decide +kernel
theorem dX6_lying_21 : decode cX6_lying 21 = .ok (.iconst 2, 1) := by decide +kernel
theorem dX6_lying_22 : decode cX6_lying 22 = .ok (.if_icmp .ne 16, 3) := by decide +kernel
theorem dX6_lying_25 : decode cX6_lying 25 = .ok (.aload_n 0, 1) := by decide +kernel
theorem dX6_lying_26 : decode cX6_lying 26 = .ok (.getfield 15, 3) := by decide +kernel
theorem dX6_lying_29 : decode cX6_lying 29 = .ok (.iload_n 3, 1) := by decide +kernel
theorem dX6_lying_3 : decode cX6_lying 3 = .ok (.istore_n 3, 1) := by decide +kernel
theorem dX6_lying_30 : decode cX6_lying 30 = .ok (.iaload, 1) := by decide +kernel
theorem dX6_lying_31 : decode cX6_lying 31 = .ok (.iload_n 1, 1) := by decide +kernel
theorem dX6_lying_32 : decode cX6_lying 32 = .ok (.if_icmp .ne 6, 3) := by decide +kernel
theorem dX6_lying_35 : decode cX6_lying 35 = .ok (.iinc 2 1, 3) := by decide +kernel
theorem dX6_lying_38 : decode cX6_lying 38 = .ok (.iinc 3 1, 3) := by decide +kernel
theorem dX6_lying_4 : decode cX6_lying 4 = .ok (.iload_n 3, 1) := by decide +kernel
theorem dX6_lying_41 : decode cX6_lying 41 = .ok (.goto (-37), 3) := by decide +kernel
theorem dX6_lying_44 : decode cX6_lying 44 = .ok (.iload_n 2, 1) := by decide +kernel
theorem dX6_lying_45 : decode cX6_lying 45 = .ok (.ireturn, 1) := by decide +kernel
theorem dX6_lying_5 : decode cX6_lying 5 = .ok (.aload_n 0, 1) := by decide +kernel
theorem dX6_lying_6 : decode cX6_lying 6 = .ok (.getfield 27, 3) := by decide +kernel
theorem dX6_lying_9 : decode cX6_lying 9 = .ok (.getfield 44, 3) := by decide +kernel
theorem dX6_pickUp_0 : decode cX6_pickUp 0 = .ok (.aload_n 0, 1) := by decide +kernel
theorem dX6_pickUp_1 : decode cX6_pickUp 1 = .ok (.getfield 9, 3) := by decide +kernel
theorem dX6_pickUp_11 : decode cX6_pickUp 11 = .ok (.iload_n 1, 1) := by decide +kernel
theorem dX6_pickUp_12 : decode cX6_pickUp 12 = .ok (.aload_n 0, 1) := by decide +kernel
theorem dX6_pickUp_13 : decode cX6_pickUp 13 = .ok (.getfield 31, 3) := by decide +kernel
theorem dX6_pickUp_16 : decode cX6_pickUp 16 = .ok (.iastore, 1) := by decide +kernel
theorem dX6_pickUp_17 : decode cX6_pickUp 17 = .ok (.return_, 1) := by decide +kernel
theorem dX6_pickUp_4 : decode cX6_pickUp 4 = .ok (.iload_n 1, 1) := by decide +kernel
theorem dX6_pickUp_5 : decode cX6_pickUp 5 = .ok (.iconst 0, 1) := by decide +kernel
theorem dX6_pickUp_6 : decode cX6_pickUp 6 = .ok (.iastore, 1) := by decide +kernel
theorem dX6_pickUp_7 : decode cX6_pickUp 7 = .ok (.aload_n 0, 1) := by decide +kernel
theorem dX6_pickUp_8 : decode cX6_pickUp 8 = .ok (.getfield 21, 3) := by decide +kernel
theorem dX6_thingAt_0 : decode cX6_thingAt 0 = .ok (.iconst 0, 1) := by decide +kernel
theorem dX6_thingAt_1 : decode cX6_thingAt 1 = .ok (.istore_n 3, 1) := by decide +kernel
theorem dX6_thingAt_10 : decode cX6_thingAt 10 = .ok (.if_icmp .ge 40, 3) := by decide +kernel
theorem dX6_thingAt_13 : decode cX6_thingAt 13 = .ok (.aload_n 0, 1) := by decide +kernel
theorem dX6_thingAt_14 : decode cX6_thingAt 14 = .ok (.getfield 9, 3) := by decide +kernel
theorem dX6_thingAt_17 : decode cX6_thingAt 17 = .ok (.iload_n 3, 1) := by decide +kernel
theorem dX6_thingAt_18 : decode cX6_thingAt 18 = .ok (.iaload, 1) := by decide +kernel
theorem dX6_thingAt_19 : decode cX6_thingAt 19 = .ok (.ifCond .eq 25, 3) := by decide +kernel
theorem dX6_thingAt_2 : decode cX6_thingAt 2 = .ok (.iload_n 3, 1) := by decide +kernel
theorem dX6_thingAt_22 : decode cX6_thingAt 22 = .ok (.aload_n 0, 1) := by decide +kernel
theorem dX6_thingAt_23 : decode cX6_thingAt 23 = .ok (.getfield 15, 3) := by decide +kernel
theorem dX6_thingAt_26 : decode cX6_thingAt 26 = .ok (.iload_n 3, 1) := by decide +kernel
theorem dX6_thingAt_27 : decode cX6_thingAt 27 = .ok (.iaload, 1) := by decide +kernel
theorem dX6_thingAt_28 : decode cX6_thingAt 28 = .ok (.iload_n 1, 1) := by decide +kernel
theorem dX6_thingAt_29 : decode cX6_thingAt 29 = .ok (.if_icmp .ne 15, 3) := by decide +kernel
theorem dX6_thingAt_3 : decode cX6_thingAt 3 = .ok (.aload_n 0, 1) := by decide +kernel
theorem dX6_thingAt_32 : decode cX6_thingAt 32 = .ok (.aload_n 0, 1) := by decide +kernel
theorem dX6_thingAt_33 : decode cX6_thingAt 33 = .ok (.getfield 18, 3) := by decide +kernel
theorem dX6_thingAt_36 : decode cX6_thingAt 36 = .ok (.iload_n 3, 1) := by decide +kernel
theorem dX6_thingAt_37 : decode cX6_thingAt 37 = .ok (.iaload, 1) := by decide +kernel
theorem dX6_thingAt_38 : decode cX6_thingAt 38 = .ok (.iload_n 2, 1) := by decide +kernel
theorem dX6_thingAt_39 : decode cX6_thingAt 39 = .ok (.if_icmp .ne 5, 3) := by decide +kernel
theorem dX6_thingAt_4 : decode cX6_thingAt 4 = .ok (.getfield 27, 3) := by decide +kernel
theorem dX6_thingAt_42 : decode cX6_thingAt 42 = .ok (.iload_n 3, 1) := by decide +kernel
theorem dX6_thingAt_43 : decode cX6_thingAt 43 = .ok (.ireturn, 1) := by decide +kernel
theorem dX6_thingAt_44 : decode cX6_thingAt 44 = .ok (.iinc 3 1, 3) := by decide +kernel
theorem dX6_thingAt_47 : decode cX6_thingAt 47 = .ok (.goto (-45), 3) := by decide +kernel
theorem dX6_thingAt_50 : decode cX6_thingAt 50 = .ok (.iconst (-1), 1) := by decide +kernel
theorem dX6_thingAt_51 : decode cX6_thingAt 51 = .ok (.ireturn, 1) := by decide +kernel
theorem dX6_thingAt_7 : decode cX6_thingAt 7 = .ok (.getfield 44, 3) := by decide +kernel
theorem dX6_totalHurt_0 : decode cX6_totalHurt 0 = .ok (.iconst 0, 1) := by decide +kernel
theorem dX6_totalHurt_1 : decode cX6_totalHurt 1 = .ok (.istore_n 1, 1) := by decide +kernel
theorem dX6_totalHurt_12 : decode cX6_totalHurt 12 = .ok (.if_icmp .ge 18, 3) := by decide +kernel
theorem dX6_totalHurt_15 : decode cX6_totalHurt 15 = .ok (.iload_n 1, 1) := by decide +kernel
theorem dX6_totalHurt_16 : decode cX6_totalHurt 16 = .ok (.aload_n 0, 1) := by decide +kernel
theorem dX6_totalHurt_17 : decode cX6_totalHurt 17 = .ok (.getfield 24, 3) := by decide +kernel
theorem dX6_totalHurt_2 : decode cX6_totalHurt 2 = .ok (.iconst 0, 1) := by decide +kernel
theorem dX6_totalHurt_20 : decode cX6_totalHurt 20 = .ok (.iload_n 2, 1) := by decide +kernel
theorem dX6_totalHurt_21 : decode cX6_totalHurt 21 = .ok (.iaload, 1) := by decide +kernel
theorem dX6_totalHurt_22 : decode cX6_totalHurt 22 = .ok (.iadd, 1) := by decide +kernel
theorem dX6_totalHurt_23 : decode cX6_totalHurt 23 = .ok (.istore_n 1, 1) := by decide +kernel
theorem dX6_totalHurt_24 : decode cX6_totalHurt 24 = .ok (.iinc 2 1, 3) := by decide +kernel
theorem dX6_totalHurt_27 : decode cX6_totalHurt 27 = .ok (.goto (-23), 3) := by decide +kernel
theorem dX6_totalHurt_3 : decode cX6_totalHurt 3 = .ok (.istore_n 2, 1) := by decide +kernel
theorem dX6_totalHurt_30 : decode cX6_totalHurt 30 = .ok (.iload_n 1, 1) := by decide +kernel
theorem dX6_totalHurt_31 : decode cX6_totalHurt 31 = .ok (.ireturn, 1) := by decide +kernel
theorem dX6_totalHurt_4 : decode cX6_totalHurt 4 = .ok (.iload_n 2, 1) := by decide +kernel
theorem dX6_totalHurt_5 : decode cX6_totalHurt 5 = .ok (.aload_n 0, 1) := by decide +kernel
theorem dX6_totalHurt_6 : decode cX6_totalHurt 6 = .ok (.getfield 27, 3) := by decide +kernel
theorem dX6_totalHurt_9 : decode cX6_totalHurt 9 = .ok (.getfield 49, 3) := by decide +kernel
theorem dX6_weightOf_0 : decode cX6_weightOf 0 = .ok (.iconst 0, 1) := by decide +kernel
theorem dX6_weightOf_1 : decode cX6_weightOf 1 = .ok (.istore_n 3, 1) := by decide +kernel
theorem dX6_weightOf_11 : decode cX6_weightOf 11 = .ok (.getfield 44, 3) := by decide +kernel
theorem dX6_weightOf_14 : decode cX6_weightOf 14 = .ok (.if_icmp .ge 42, 3) := by decide +kernel
theorem dX6_weightOf_17 : decode cX6_weightOf 17 = .ok (.iload_n 1, 1) := by decide +kernel
theorem dX6_weightOf_18 : decode cX6_weightOf 18 = .ok (.iload 4, 2) := by decide +kernel
theorem dX6_weightOf_2 : decode cX6_weightOf 2 = .ok (.iconst 0, 1) := by decide +kernel
theorem dX6_weightOf_20 : decode cX6_weightOf 20 = .ok (.ishr, 1) := by decide +kernel
theorem dX6_weightOf_21 : decode cX6_weightOf 21 = .ok (.iconst 1, 1) := by decide +kernel
theorem dX6_weightOf_22 : decode cX6_weightOf 22 = .ok (.iand, 1) := by decide +kernel
theorem dX6_weightOf_23 : decode cX6_weightOf 23 = .ok (.ifCond .eq 27, 3) := by decide +kernel
theorem dX6_weightOf_26 : decode cX6_weightOf 26 = .ok (.aload_n 0, 1) := by decide +kernel
theorem dX6_weightOf_27 : decode cX6_weightOf 27 = .ok (.getfield 15, 3) := by decide +kernel
theorem dX6_weightOf_3 : decode cX6_weightOf 3 = .ok (.istore 4, 2) := by decide +kernel
theorem dX6_weightOf_30 : decode cX6_weightOf 30 = .ok (.iload 4, 2) := by decide +kernel
theorem dX6_weightOf_32 : decode cX6_weightOf 32 = .ok (.iaload, 1) := by decide +kernel
theorem dX6_weightOf_33 : decode cX6_weightOf 33 = .ok (.iload_n 2, 1) := by decide +kernel
theorem dX6_weightOf_34 : decode cX6_weightOf 34 = .ok (.if_icmp .ne 16, 3) := by decide +kernel
theorem dX6_weightOf_37 : decode cX6_weightOf 37 = .ok (.iload_n 3, 1) := by decide +kernel
theorem dX6_weightOf_38 : decode cX6_weightOf 38 = .ok (.aload_n 0, 1) := by decide +kernel
theorem dX6_weightOf_39 : decode cX6_weightOf 39 = .ok (.getfield 27, 3) := by decide +kernel
theorem dX6_weightOf_42 : decode cX6_weightOf 42 = .ok (.getfield 52, 3) := by decide +kernel
theorem dX6_weightOf_45 : decode cX6_weightOf 45 = .ok (.iload 4, 2) := by decide +kernel
theorem dX6_weightOf_47 : decode cX6_weightOf 47 = .ok (.iaload, 1) := by decide +kernel
theorem dX6_weightOf_48 : decode cX6_weightOf 48 = .ok (.iadd, 1) := by decide +kernel
theorem dX6_weightOf_49 : decode cX6_weightOf 49 = .ok (.istore_n 3, 1) := by decide +kernel
theorem dX6_weightOf_5 : decode cX6_weightOf 5 = .ok (.iload 4, 2) := by decide +kernel
theorem dX6_weightOf_50 : decode cX6_weightOf 50 = .ok (.iinc 4 1, 3) := by decide +kernel
theorem dX6_weightOf_53 : decode cX6_weightOf 53 = .ok (.goto (-48), 3) := by decide +kernel
theorem dX6_weightOf_56 : decode cX6_weightOf 56 = .ok (.iload_n 3, 1) := by decide +kernel
theorem dX6_weightOf_57 : decode cX6_weightOf 57 = .ok (.ireturn, 1) := by decide +kernel
theorem dX6_weightOf_7 : decode cX6_weightOf 7 = .ok (.aload_n 0, 1) := by decide +kernel
theorem dX6_weightOf_8 : decode cX6_weightOf 8 = .ok (.getfield 27, 3) := by decide +kernel
theorem dX6_whyNotLetGo_0 : decode cX6_whyNotLetGo 0 = .ok (.iload_n 1, 1) := by decide +kernel
theorem dX6_whyNotLetGo_1 : decode cX6_whyNotLetGo 1 = .ok (.ifCond .lt 26, 3) := by decide +kernel
theorem dX6_whyNotLetGo_12 : decode cX6_whyNotLetGo 12 = .ok (.if_icmp .ge 15, 3) := by decide +kernel
theorem dX6_whyNotLetGo_15 : decode cX6_whyNotLetGo 15 = .ok (.aload_n 0, 1) := by decide +kernel
theorem dX6_whyNotLetGo_16 : decode cX6_whyNotLetGo 16 = .ok (.getfield 27, 3) := by decide +kernel
theorem dX6_whyNotLetGo_19 : decode cX6_whyNotLetGo 19 = .ok (.iload_n 2, 1) := by decide +kernel
theorem dX6_whyNotLetGo_20 : decode cX6_whyNotLetGo 20 = .ok (.iload_n 3, 1) := by decide +kernel
theorem dX6_whyNotLetGo_21 : decode cX6_whyNotLetGo 21 = .ok (.invokevirtual 63, 3) := by decide +kernel
theorem dX6_whyNotLetGo_24 : decode cX6_whyNotLetGo 24 = .ok (.ifCond .ne 5, 3) := by decide +kernel
theorem dX6_whyNotLetGo_27 : decode cX6_whyNotLetGo 27 = .ok (.iconst 1, 1) := by decide +kernel
theorem dX6_whyNotLetGo_28 : decode cX6_whyNotLetGo 28 = .ok (.ireturn, 1) := by decide +kernel
theorem dX6_whyNotLetGo_29 : decode cX6_whyNotLetGo 29 = .ok (.aload_n 0, 1) := by decide +kernel
theorem dX6_whyNotLetGo_30 : decode cX6_whyNotLetGo 30 = .ok (.getfield 9, 3) := by decide +kernel
theorem dX6_whyNotLetGo_33 : decode cX6_whyNotLetGo 33 = .ok (.iload_n 1, 1) := by decide +kernel
theorem dX6_whyNotLetGo_34 : decode cX6_whyNotLetGo 34 = .ok (.iaload, 1) := by decide +kernel
theorem dX6_whyNotLetGo_35 : decode cX6_whyNotLetGo 35 = .ok (.ifCond .eq 5, 3) := by decide +kernel
theorem dX6_whyNotLetGo_38 : decode cX6_whyNotLetGo 38 = .ok (.iconst 2, 1) := by decide +kernel
theorem dX6_whyNotLetGo_39 : decode cX6_whyNotLetGo 39 = .ok (.ireturn, 1) := by decide +kernel
theorem dX6_whyNotLetGo_4 : decode cX6_whyNotLetGo 4 = .ok (.iload_n 1, 1) := by decide +kernel
theorem dX6_whyNotLetGo_40 : decode cX6_whyNotLetGo 40 = .ok (.aload_n 0, 1) := by decide +kernel
theorem dX6_whyNotLetGo_41 : decode cX6_whyNotLetGo 41 = .ok (.iload_n 2, 1) := by decide +kernel
theorem dX6_whyNotLetGo_42 : decode cX6_whyNotLetGo 42 = .ok (.iload_n 3, 1) := by decide +kernel
theorem dX6_whyNotLetGo_43 : decode cX6_whyNotLetGo 43 = .ok (.invokevirtual 67, 3) := by decide +kernel
theorem dX6_whyNotLetGo_46 : decode cX6_whyNotLetGo 46 = .ok (.ifCond .eq 7, 3) := by decide +kernel
theorem dX6_whyNotLetGo_49 : decode cX6_whyNotLetGo 49 = .ok (.iconst 0, 1) := by decide +kernel
theorem dX6_whyNotLetGo_5 : decode cX6_whyNotLetGo 5 = .ok (.aload_n 0, 1) := by decide +kernel
theorem dX6_whyNotLetGo_50 : decode cX6_whyNotLetGo 50 = .ok (.goto 4, 3) := by decide +kernel
theorem dX6_whyNotLetGo_53 : decode cX6_whyNotLetGo 53 = .ok (.iconst 3, 1) := by decide +kernel
theorem dX6_whyNotLetGo_54 : decode cX6_whyNotLetGo 54 = .ok (.ireturn, 1) := by decide +kernel
theorem dX6_whyNotLetGo_6 : decode cX6_whyNotLetGo 6 = .ok (.getfield 27, 3) := by decide +kernel
theorem dX6_whyNotLetGo_9 : decode cX6_whyNotLetGo 9 = .ok (.getfield 44, 3) := by decide +kernel
theorem dX6_whyNotTake_0 : decode cX6_whyNotTake 0 = .ok (.iload_n 1, 1) := by decide +kernel
theorem dX6_whyNotTake_1 : decode cX6_whyNotTake 1 = .ok (.ifCond .lt 14, 3) := by decide +kernel
theorem dX6_whyNotTake_12 : decode cX6_whyNotTake 12 = .ok (.if_icmp .lt 5, 3) := by decide +kernel
theorem dX6_whyNotTake_15 : decode cX6_whyNotTake 15 = .ok (.iconst 1, 1) := by decide +kernel
theorem dX6_whyNotTake_16 : decode cX6_whyNotTake 16 = .ok (.ireturn, 1) := by decide +kernel
theorem dX6_whyNotTake_17 : decode cX6_whyNotTake 17 = .ok (.aload_n 0, 1) := by decide +kernel
theorem dX6_whyNotTake_18 : decode cX6_whyNotTake 18 = .ok (.getfield 9, 3) := by decide +kernel
theorem dX6_whyNotTake_21 : decode cX6_whyNotTake 21 = .ok (.iload_n 1, 1) := by decide +kernel
theorem dX6_whyNotTake_22 : decode cX6_whyNotTake 22 = .ok (.iaload, 1) := by decide +kernel
theorem dX6_whyNotTake_23 : decode cX6_whyNotTake 23 = .ok (.ifCond .ne 5, 3) := by decide +kernel
theorem dX6_whyNotTake_26 : decode cX6_whyNotTake 26 = .ok (.iconst 2, 1) := by decide +kernel
theorem dX6_whyNotTake_27 : decode cX6_whyNotTake 27 = .ok (.ireturn, 1) := by decide +kernel
theorem dX6_whyNotTake_28 : decode cX6_whyNotTake 28 = .ok (.aload_n 0, 1) := by decide +kernel
theorem dX6_whyNotTake_29 : decode cX6_whyNotTake 29 = .ok (.getfield 9, 3) := by decide +kernel
theorem dX6_whyNotTake_32 : decode cX6_whyNotTake 32 = .ok (.iload_n 1, 1) := by decide +kernel
theorem dX6_whyNotTake_33 : decode cX6_whyNotTake 33 = .ok (.iaload, 1) := by decide +kernel
theorem dX6_whyNotTake_34 : decode cX6_whyNotTake 34 = .ok (.iconst 2, 1) := by decide +kernel
theorem dX6_whyNotTake_35 : decode cX6_whyNotTake 35 = .ok (.if_icmp .ne 28, 3) := by decide +kernel
theorem dX6_whyNotTake_38 : decode cX6_whyNotTake 38 = .ok (.aload_n 0, 1) := by decide +kernel
theorem dX6_whyNotTake_39 : decode cX6_whyNotTake 39 = .ok (.getfield 18, 3) := by decide +kernel
theorem dX6_whyNotTake_4 : decode cX6_whyNotTake 4 = .ok (.iload_n 1, 1) := by decide +kernel
theorem dX6_whyNotTake_42 : decode cX6_whyNotTake 42 = .ok (.iload_n 1, 1) := by decide +kernel
theorem dX6_whyNotTake_43 : decode cX6_whyNotTake 43 = .ok (.iaload, 1) := by decide +kernel
theorem dX6_whyNotTake_44 : decode cX6_whyNotTake 44 = .ok (.iconst 1, 1) := by decide +kernel
theorem dX6_whyNotTake_45 : decode cX6_whyNotTake 45 = .ok (.iadd, 1) := by decide +kernel
theorem dX6_whyNotTake_46 : decode cX6_whyNotTake 46 = .ok (.aload_n 0, 1) := by decide +kernel
theorem dX6_whyNotTake_47 : decode cX6_whyNotTake 47 = .ok (.aload_n 0, 1) := by decide +kernel
theorem dX6_whyNotTake_48 : decode cX6_whyNotTake 48 = .ok (.getfield 15, 3) := by decide +kernel
theorem dX6_whyNotTake_5 : decode cX6_whyNotTake 5 = .ok (.aload_n 0, 1) := by decide +kernel
theorem dX6_whyNotTake_51 : decode cX6_whyNotTake 51 = .ok (.iload_n 1, 1) := by decide +kernel
theorem dX6_whyNotTake_52 : decode cX6_whyNotTake 52 = .ok (.iaload, 1) := by decide +kernel
theorem dX6_whyNotTake_53 : decode cX6_whyNotTake 53 = .ok (.invokevirtual 55, 3) := by decide +kernel
theorem dX6_whyNotTake_56 : decode cX6_whyNotTake 56 = .ok (.if_icmp .ge 7, 3) := by decide +kernel
theorem dX6_whyNotTake_59 : decode cX6_whyNotTake 59 = .ok (.iconst 1, 1) := by decide +kernel
theorem dX6_whyNotTake_6 : decode cX6_whyNotTake 6 = .ok (.getfield 27, 3) := by decide +kernel
theorem dX6_whyNotTake_60 : decode cX6_whyNotTake 60 = .ok (.goto 4, 3) := by decide +kernel
theorem dX6_whyNotTake_63 : decode cX6_whyNotTake 63 = .ok (.iconst 0, 1) := by decide +kernel
theorem dX6_whyNotTake_64 : decode cX6_whyNotTake 64 = .ok (.istore_n 2, 1) := by decide +kernel
theorem dX6_whyNotTake_65 : decode cX6_whyNotTake 65 = .ok (.iload_n 2, 1) := by decide +kernel
theorem dX6_whyNotTake_66 : decode cX6_whyNotTake 66 = .ok (.ifCond .eq 7, 3) := by decide +kernel
theorem dX6_whyNotTake_69 : decode cX6_whyNotTake 69 = .ok (.iconst 3, 1) := by decide +kernel
theorem dX6_whyNotTake_70 : decode cX6_whyNotTake 70 = .ok (.goto 4, 3) := by decide +kernel
theorem dX6_whyNotTake_73 : decode cX6_whyNotTake 73 = .ok (.iconst 0, 1) := by decide +kernel
theorem dX6_whyNotTake_74 : decode cX6_whyNotTake 74 = .ok (.ireturn, 1) := by decide +kernel
theorem dX6_whyNotTake_9 : decode cX6_whyNotTake 9 = .ok (.getfield 44, 3) := by decide +kernel
