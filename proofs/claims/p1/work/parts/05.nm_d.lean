theorem dX0_init_0 : decode cX0_init 0 = .ok (.aload_n 0, 1) := by decide +kernel
theorem dX0_init_1 : decode cX0_init 1 = .ok (.invokespecial 3, 3) := by decide +kernel
theorem dX0_init_4 : decode cX0_init 4 = .ok (.aload_n 0, 1) := by decide +kernel
theorem dX0_init_5 : decode cX0_init 5 = .ok (.iconst 1, 1) := by decide +kernel
theorem dX0_init_6 : decode cX0_init 6 = .ok (.putfield 9, 3) := by decide +kernel
theorem dX0_init_9 : decode cX0_init 9 = .ok (.aload_n 0, 1) := by decide +kernel
theorem dX0_init_10 : decode cX0_init 10 = .ok (.iconst 1, 1) := by decide +kernel
theorem dX0_init_11 : decode cX0_init 11 = .ok (.putfield 15, 3) := by decide +kernel
theorem dX0_init_14 : decode cX0_init 14 = .ok (.aload_n 0, 1) := by decide +kernel
theorem dX0_init_15 : decode cX0_init 15 = .ok (.bipush 8, 2) := by decide +kernel
theorem dX0_init_17 : decode cX0_init 17 = .ok (.newarray .int, 2) := by decide +kernel
theorem dX0_init_19 : decode cX0_init 19 = .ok (.putfield 18, 3) := by decide +kernel
theorem dX0_init_22 : decode cX0_init 22 = .ok (.aload_n 0, 1) := by decide +kernel
theorem dX0_init_23 : decode cX0_init 23 = .ok (.bipush 32, 2) := by decide +kernel
theorem dX0_init_25 : decode cX0_init 25 = .ok (.newarray .int, 2) := by decide +kernel
theorem dX0_init_27 : decode cX0_init 27 = .ok (.putfield 22, 3) := by decide +kernel
theorem dX0_init_30 : decode cX0_init 30 = .ok (.aload_n 0, 1) := by decide +kernel
theorem dX0_init_31 : decode cX0_init 31 = .ok (.iconst 4, 1) := by decide +kernel
theorem dX0_init_32 : decode cX0_init 32 = .ok (.newarray .int, 2) := by decide +kernel
theorem dX0_init_34 : decode cX0_init 34 = .ok (.putfield 25, 3) := by decide +kernel
theorem dX0_init_37 : decode cX0_init 37 = .ok (.return_, 1) := by decide +kernel
theorem dX0_hasPlace_0 : decode cX0_hasPlace 0 = .ok (.iload_n 1, 1) := by decide +kernel
theorem dX0_hasPlace_1 : decode cX0_hasPlace 1 = .ok (.ifCond .lt 27, 3) := by decide +kernel
theorem dX0_hasPlace_4 : decode cX0_hasPlace 4 = .ok (.iload_n 1, 1) := by decide +kernel
theorem dX0_hasPlace_5 : decode cX0_hasPlace 5 = .ok (.aload_n 0, 1) := by decide +kernel
theorem dX0_hasPlace_6 : decode cX0_hasPlace 6 = .ok (.getfield 9, 3) := by decide +kernel
theorem dX0_hasPlace_9 : decode cX0_hasPlace 9 = .ok (.if_icmp .ge 19, 3) := by decide +kernel
theorem dX0_hasPlace_12 : decode cX0_hasPlace 12 = .ok (.iload_n 2, 1) := by decide +kernel
theorem dX0_hasPlace_13 : decode cX0_hasPlace 13 = .ok (.ifCond .lt 15, 3) := by decide +kernel
theorem dX0_hasPlace_16 : decode cX0_hasPlace 16 = .ok (.iload_n 2, 1) := by decide +kernel
theorem dX0_hasPlace_17 : decode cX0_hasPlace 17 = .ok (.aload_n 0, 1) := by decide +kernel
theorem dX0_hasPlace_18 : decode cX0_hasPlace 18 = .ok (.getfield 15, 3) := by decide +kernel
theorem dX0_hasPlace_21 : decode cX0_hasPlace 21 = .ok (.if_icmp .ge 7, 3) := by decide +kernel
theorem dX0_hasPlace_24 : decode cX0_hasPlace 24 = .ok (.iconst 1, 1) := by decide +kernel
theorem dX0_hasPlace_25 : decode cX0_hasPlace 25 = .ok (.goto 4, 3) := by decide +kernel
theorem dX0_hasPlace_28 : decode cX0_hasPlace 28 = .ok (.iconst 0, 1) := by decide +kernel
theorem dX0_hasPlace_29 : decode cX0_hasPlace 29 = .ok (.ireturn, 1) := by decide +kernel
theorem dX0_hangTime_0 : decode cX0_hangTime 0 = .ok (.aload_n 0, 1) := by decide +kernel
theorem dX0_hangTime_1 : decode cX0_hangTime 1 = .ok (.getfield 40, 3) := by decide +kernel
theorem dX0_hangTime_4 : decode cX0_hangTime 4 = .ok (.ifnonnull 5, 3) := by decide +kernel
theorem dX0_hangTime_7 : decode cX0_hangTime 7 = .ok (.iload_n 1, 1) := by decide +kernel
theorem dX0_hangTime_8 : decode cX0_hangTime 8 = .ok (.ireturn, 1) := by decide +kernel
theorem dX1_init_0 : decode cX1_init 0 = .ok (.aload_n 0, 1) := by decide +kernel
theorem dX1_init_1 : decode cX1_init 1 = .ok (.invokespecial 3, 3) := by decide +kernel
theorem dX1_init_4 : decode cX1_init 4 = .ok (.aload_n 0, 1) := by decide +kernel
theorem dX1_init_5 : decode cX1_init 5 = .ok (.bipush 8, 2) := by decide +kernel
theorem dX1_init_7 : decode cX1_init 7 = .ok (.newarray .int, 2) := by decide +kernel
theorem dX1_init_9 : decode cX1_init 9 = .ok (.putfield 9, 3) := by decide +kernel
theorem dX1_init_12 : decode cX1_init 12 = .ok (.aload_n 0, 1) := by decide +kernel
theorem dX1_init_13 : decode cX1_init 13 = .ok (.bipush 8, 2) := by decide +kernel
theorem dX1_init_15 : decode cX1_init 15 = .ok (.newarray .int, 2) := by decide +kernel
theorem dX1_init_17 : decode cX1_init 17 = .ok (.putfield 15, 3) := by decide +kernel
theorem dX1_init_20 : decode cX1_init 20 = .ok (.aload_n 0, 1) := by decide +kernel
theorem dX1_init_21 : decode cX1_init 21 = .ok (.new 18, 3) := by decide +kernel
theorem dX1_init_24 : decode cX1_init 24 = .ok (.dup, 1) := by decide +kernel
theorem dX1_init_25 : decode cX1_init 25 = .ok (.aload_n 1, 1) := by decide +kernel
theorem dX1_init_26 : decode cX1_init 26 = .ok (.invokespecial 20, 3) := by decide +kernel
theorem dX1_init_29 : decode cX1_init 29 = .ok (.putfield 23, 3) := by decide +kernel
theorem dX1_init_32 : decode cX1_init 32 = .ok (.return_, 1) := by decide +kernel
theorem dX1_look_0 : decode cX1_look 0 = .ok (.aload_n 0, 1) := by decide +kernel
theorem dX1_look_1 : decode cX1_look 1 = .ok (.getfield 23, 3) := by decide +kernel
theorem dX1_look_4 : decode cX1_look 4 = .ok (.aload_n 1, 1) := by decide +kernel
theorem dX1_look_5 : decode cX1_look 5 = .ok (.invokevirtual 27, 3) := by decide +kernel
theorem dX1_look_8 : decode cX1_look 8 = .ok (.aload_n 0, 1) := by decide +kernel
theorem dX1_look_9 : decode cX1_look 9 = .ok (.aload_n 1, 1) := by decide +kernel
theorem dX1_look_10 : decode cX1_look 10 = .ok (.getfield 31, 3) := by decide +kernel
theorem dX1_look_13 : decode cX1_look 13 = .ok (.putfield 35, 3) := by decide +kernel
theorem dX1_look_16 : decode cX1_look 16 = .ok (.aload_n 0, 1) := by decide +kernel
theorem dX1_look_17 : decode cX1_look 17 = .ok (.iconst 0, 1) := by decide +kernel
theorem dX1_look_18 : decode cX1_look 18 = .ok (.putfield 38, 3) := by decide +kernel
theorem dX1_look_21 : decode cX1_look 21 = .ok (.iconst 0, 1) := by decide +kernel
theorem dX1_look_22 : decode cX1_look 22 = .ok (.istore_n 2, 1) := by decide +kernel
theorem dX1_look_23 : decode cX1_look 23 = .ok (.iload_n 2, 1) := by decide +kernel
theorem dX1_look_24 : decode cX1_look 24 = .ok (.bipush 8, 2) := by decide +kernel
theorem dX1_look_26 : decode cX1_look 26 = .ok (.if_icmp .ge 62, 3) := by decide +kernel
theorem dX1_look_29 : decode cX1_look 29 = .ok (.aload_n 0, 1) := by decide +kernel
theorem dX1_look_30 : decode cX1_look 30 = .ok (.getfield 23, 3) := by decide +kernel
theorem dX1_look_33 : decode cX1_look 33 = .ok (.ldc 41, 2) := by decide +kernel
theorem dX1_look_35 : decode cX1_look 35 = .ok (.invokevirtual 42, 3) := by decide +kernel
theorem dX1_look_38 : decode cX1_look 38 = .ok (.ifCond .ne 6, 3) := by decide +kernel
theorem dX1_look_41 : decode cX1_look 41 = .ok (.goto 47, 3) := by decide +kernel
theorem dX1_look_88 : decode cX1_look 88 = .ok (.return_, 1) := by decide +kernel
theorem dX2_init_0 : decode cX2_init 0 = .ok (.aload_n 0, 1) := by decide +kernel
theorem dX2_init_1 : decode cX2_init 1 = .ok (.invokespecial 3, 3) := by decide +kernel
theorem dX2_init_4 : decode cX2_init 4 = .ok (.aload_n 0, 1) := by decide +kernel
theorem dX2_init_5 : decode cX2_init 5 = .ok (.bipush 10, 2) := by decide +kernel
theorem dX2_init_7 : decode cX2_init 7 = .ok (.anewarray 9, 3) := by decide +kernel
theorem dX2_init_10 : decode cX2_init 10 = .ok (.putfield 11, 3) := by decide +kernel
theorem dX2_init_13 : decode cX2_init 13 = .ok (.iconst 0, 1) := by decide +kernel
theorem dX2_init_14 : decode cX2_init 14 = .ok (.istore_n 2, 1) := by decide +kernel
theorem dX2_init_15 : decode cX2_init 15 = .ok (.iload_n 2, 1) := by decide +kernel
theorem dX2_init_16 : decode cX2_init 16 = .ok (.bipush 10, 2) := by decide +kernel
theorem dX2_init_18 : decode cX2_init 18 = .ok (.if_icmp .ge 23, 3) := by decide +kernel
theorem dX2_init_21 : decode cX2_init 21 = .ok (.aload_n 0, 1) := by decide +kernel
theorem dX2_init_22 : decode cX2_init 22 = .ok (.getfield 11, 3) := by decide +kernel
theorem dX2_init_25 : decode cX2_init 25 = .ok (.iload_n 2, 1) := by decide +kernel
theorem dX2_init_26 : decode cX2_init 26 = .ok (.new 9, 3) := by decide +kernel
theorem dX2_init_29 : decode cX2_init 29 = .ok (.dup, 1) := by decide +kernel
theorem dX2_init_30 : decode cX2_init 30 = .ok (.aload_n 1, 1) := by decide +kernel
theorem dX2_init_31 : decode cX2_init 31 = .ok (.invokespecial 17, 3) := by decide +kernel
theorem dX2_init_34 : decode cX2_init 34 = .ok (.aastore, 1) := by decide +kernel
theorem dX2_init_35 : decode cX2_init 35 = .ok (.iinc 2 1, 3) := by decide +kernel
theorem dX2_init_38 : decode cX2_init 38 = .ok (.goto (-23), 3) := by decide +kernel
theorem dX2_init_41 : decode cX2_init 41 = .ok (.return_, 1) := by decide +kernel
theorem dX2_keep_0 : decode cX2_keep 0 = .ok (.aload_n 0, 1) := by decide +kernel
theorem dX2_keep_1 : decode cX2_keep 1 = .ok (.getfield 11, 3) := by decide +kernel
theorem dX2_keep_4 : decode cX2_keep 4 = .ok (.aload_n 0, 1) := by decide +kernel
theorem dX2_keep_5 : decode cX2_keep 5 = .ok (.getfield 20, 3) := by decide +kernel
theorem dX2_keep_8 : decode cX2_keep 8 = .ok (.aload_n 0, 1) := by decide +kernel
theorem dX2_keep_9 : decode cX2_keep 9 = .ok (.getfield 24, 3) := by decide +kernel
theorem dX2_keep_12 : decode cX2_keep 12 = .ok (.iadd, 1) := by decide +kernel
theorem dX2_keep_13 : decode cX2_keep 13 = .ok (.bipush 10, 2) := by decide +kernel
theorem dX2_keep_15 : decode cX2_keep 15 = .ok (.irem, 1) := by decide +kernel
theorem dX2_keep_16 : decode cX2_keep 16 = .ok (.aaload, 1) := by decide +kernel
theorem dX2_keep_17 : decode cX2_keep 17 = .ok (.aload_n 1, 1) := by decide +kernel
theorem dX2_keep_18 : decode cX2_keep 18 = .ok (.invokevirtual 27, 3) := by decide +kernel
theorem dX2_keep_21 : decode cX2_keep 21 = .ok (.aload_n 0, 1) := by decide +kernel
theorem dX2_keep_22 : decode cX2_keep 22 = .ok (.getfield 24, 3) := by decide +kernel
theorem dX2_keep_25 : decode cX2_keep 25 = .ok (.bipush 10, 2) := by decide +kernel
theorem dX2_keep_27 : decode cX2_keep 27 = .ok (.if_icmp .ge 16, 3) := by decide +kernel
theorem dX2_keep_30 : decode cX2_keep 30 = .ok (.aload_n 0, 1) := by decide +kernel
theorem dX2_keep_31 : decode cX2_keep 31 = .ok (.dup, 1) := by decide +kernel
theorem dX2_keep_32 : decode cX2_keep 32 = .ok (.getfield 24, 3) := by decide +kernel
theorem dX2_keep_35 : decode cX2_keep 35 = .ok (.iconst 1, 1) := by decide +kernel
theorem dX2_keep_36 : decode cX2_keep 36 = .ok (.iadd, 1) := by decide +kernel
theorem dX2_keep_37 : decode cX2_keep 37 = .ok (.putfield 24, 3) := by decide +kernel
theorem dX2_keep_40 : decode cX2_keep 40 = .ok (.goto 16, 3) := by decide +kernel
theorem dX2_keep_56 : decode cX2_keep 56 = .ok (.return_, 1) := by decide +kernel
theorem dX2_copyFrom_0 : decode cX2_copyFrom 0 = .ok (.aload_n 0, 1) := by decide +kernel
theorem dX2_copyFrom_1 : decode cX2_copyFrom 1 = .ok (.aload_n 1, 1) := by decide +kernel
theorem dX2_copyFrom_2 : decode cX2_copyFrom 2 = .ok (.getfield 20, 3) := by decide +kernel
theorem dX2_copyFrom_5 : decode cX2_copyFrom 5 = .ok (.putfield 20, 3) := by decide +kernel
theorem dX2_copyFrom_8 : decode cX2_copyFrom 8 = .ok (.aload_n 0, 1) := by decide +kernel
theorem dX2_copyFrom_9 : decode cX2_copyFrom 9 = .ok (.aload_n 1, 1) := by decide +kernel
theorem dX2_copyFrom_10 : decode cX2_copyFrom 10 = .ok (.getfield 24, 3) := by decide +kernel
theorem dX2_copyFrom_13 : decode cX2_copyFrom 13 = .ok (.putfield 24, 3) := by decide +kernel
theorem dX2_copyFrom_16 : decode cX2_copyFrom 16 = .ok (.iconst 0, 1) := by decide +kernel
theorem dX2_copyFrom_17 : decode cX2_copyFrom 17 = .ok (.istore_n 2, 1) := by decide +kernel
theorem dX2_copyFrom_18 : decode cX2_copyFrom 18 = .ok (.iload_n 2, 1) := by decide +kernel
theorem dX2_copyFrom_19 : decode cX2_copyFrom 19 = .ok (.bipush 10, 2) := by decide +kernel
theorem dX2_copyFrom_21 : decode cX2_copyFrom 21 = .ok (.if_icmp .ge 24, 3) := by decide +kernel
theorem dX2_copyFrom_24 : decode cX2_copyFrom 24 = .ok (.aload_n 0, 1) := by decide +kernel
theorem dX2_copyFrom_25 : decode cX2_copyFrom 25 = .ok (.getfield 11, 3) := by decide +kernel
theorem dX2_copyFrom_28 : decode cX2_copyFrom 28 = .ok (.iload_n 2, 1) := by decide +kernel
theorem dX2_copyFrom_29 : decode cX2_copyFrom 29 = .ok (.aaload, 1) := by decide +kernel
theorem dX2_copyFrom_30 : decode cX2_copyFrom 30 = .ok (.aload_n 1, 1) := by decide +kernel
theorem dX2_copyFrom_31 : decode cX2_copyFrom 31 = .ok (.getfield 11, 3) := by decide +kernel
theorem dX2_copyFrom_34 : decode cX2_copyFrom 34 = .ok (.iload_n 2, 1) := by decide +kernel
theorem dX2_copyFrom_35 : decode cX2_copyFrom 35 = .ok (.aaload, 1) := by decide +kernel
theorem dX2_copyFrom_36 : decode cX2_copyFrom 36 = .ok (.invokevirtual 27, 3) := by decide +kernel
theorem dX2_copyFrom_39 : decode cX2_copyFrom 39 = .ok (.iinc 2 1, 3) := by decide +kernel
theorem dX2_copyFrom_42 : decode cX2_copyFrom 42 = .ok (.goto (-24), 3) := by decide +kernel
theorem dX2_copyFrom_45 : decode cX2_copyFrom 45 = .ok (.return_, 1) := by decide +kernel
theorem dX3_init_0 : decode cX3_init 0 = .ok (.aload_n 0, 1) := by decide +kernel
theorem dX3_init_1 : decode cX3_init 1 = .ok (.invokespecial 1, 3) := by decide +kernel
theorem dX3_init_4 : decode cX3_init 4 = .ok (.aload_n 0, 1) := by decide +kernel
theorem dX3_init_5 : decode cX3_init 5 = .ok (.new 7, 3) := by decide +kernel
theorem dX3_init_8 : decode cX3_init 8 = .ok (.dup, 1) := by decide +kernel
theorem dX3_init_9 : decode cX3_init 9 = .ok (.aload_n 1, 1) := by decide +kernel
theorem dX3_init_10 : decode cX3_init 10 = .ok (.invokespecial 9, 3) := by decide +kernel
theorem dX3_init_13 : decode cX3_init 13 = .ok (.putfield 12, 3) := by decide +kernel
theorem dX3_init_16 : decode cX3_init 16 = .ok (.aload_n 0, 1) := by decide +kernel
theorem dX3_init_17 : decode cX3_init 17 = .ok (.new 18, 3) := by decide +kernel
theorem dX3_init_20 : decode cX3_init 20 = .ok (.dup, 1) := by decide +kernel
theorem dX3_init_21 : decode cX3_init 21 = .ok (.aload_n 1, 1) := by decide +kernel
theorem dX3_init_22 : decode cX3_init 22 = .ok (.invokespecial 20, 3) := by decide +kernel
theorem dX3_init_25 : decode cX3_init 25 = .ok (.putfield 21, 3) := by decide +kernel
theorem dX3_init_28 : decode cX3_init 28 = .ok (.return_, 1) := by decide +kernel
theorem dX5_init_0 : decode cX5_init 0 = .ok (.aload_n 0, 1) := by decide +kernel
theorem dX5_init_1 : decode cX5_init 1 = .ok (.invokespecial 3, 3) := by decide +kernel
theorem dX5_init_4 : decode cX5_init 4 = .ok (.aload_n 0, 1) := by decide +kernel
theorem dX5_init_5 : decode cX5_init 5 = .ok (.new 9, 3) := by decide +kernel
theorem dX5_init_8 : decode cX5_init 8 = .ok (.dup, 1) := by decide +kernel
theorem dX5_init_9 : decode cX5_init 9 = .ok (.invokespecial 11, 3) := by decide +kernel
theorem dX5_init_12 : decode cX5_init 12 = .ok (.putfield 12, 3) := by decide +kernel
theorem dX5_init_15 : decode cX5_init 15 = .ok (.aload_n 0, 1) := by decide +kernel
theorem dX5_init_16 : decode cX5_init 16 = .ok (.sipush 900, 3) := by decide +kernel
theorem dX5_init_19 : decode cX5_init 19 = .ok (.newarray .int, 2) := by decide +kernel
theorem dX5_init_21 : decode cX5_init 21 = .ok (.putfield 18, 3) := by decide +kernel
theorem dX5_init_24 : decode cX5_init 24 = .ok (.aload_n 0, 1) := by decide +kernel
theorem dX5_init_25 : decode cX5_init 25 = .ok (.new 22, 3) := by decide +kernel
theorem dX5_init_28 : decode cX5_init 28 = .ok (.dup, 1) := by decide +kernel
theorem dX5_init_29 : decode cX5_init 29 = .ok (.aload_n 1, 1) := by decide +kernel
theorem dX5_init_30 : decode cX5_init 30 = .ok (.invokespecial 24, 3) := by decide +kernel
theorem dX5_init_33 : decode cX5_init 33 = .ok (.putfield 27, 3) := by decide +kernel
theorem dX5_init_36 : decode cX5_init 36 = .ok (.aload_n 0, 1) := by decide +kernel
theorem dX5_init_37 : decode cX5_init 37 = .ok (.aload_n 1, 1) := by decide +kernel
theorem dX5_init_38 : decode cX5_init 38 = .ok (.putfield 31, 3) := by decide +kernel
theorem dX5_init_41 : decode cX5_init 41 = .ok (.return_, 1) := by decide +kernel
theorem dX5_read_0 : decode cX5_read 0 = .ok (.aload_n 0, 1) := by decide +kernel
theorem dX5_read_1 : decode cX5_read 1 = .ok (.new 35, 3) := by decide +kernel
theorem dX5_read_4 : decode cX5_read 4 = .ok (.dup, 1) := by decide +kernel
theorem dX5_read_5 : decode cX5_read 5 = .ok (.invokespecial 37, 3) := by decide +kernel
theorem dX5_read_8 : decode cX5_read 8 = .ok (.putfield 31, 3) := by decide +kernel
theorem dX5_read_11 : decode cX5_read 11 = .ok (.aload_n 0, 1) := by decide +kernel
theorem dX5_read_12 : decode cX5_read 12 = .ok (.getfield 27, 3) := by decide +kernel
theorem dX5_read_15 : decode cX5_read 15 = .ok (.aload_n 0, 1) := by decide +kernel
theorem dX5_read_16 : decode cX5_read 16 = .ok (.getfield 31, 3) := by decide +kernel
theorem dX5_read_19 : decode cX5_read 19 = .ok (.invokevirtual 38, 3) := by decide +kernel
theorem dX5_read_22 : decode cX5_read 22 = .ok (.aload_n 0, 1) := by decide +kernel
theorem dX5_read_23 : decode cX5_read 23 = .ok (.iconst 0, 1) := by decide +kernel
theorem dX5_read_24 : decode cX5_read 24 = .ok (.putfield 41, 3) := by decide +kernel
theorem dX5_read_27 : decode cX5_read 27 = .ok (.aload_n 0, 1) := by decide +kernel
theorem dX5_read_28 : decode cX5_read 28 = .ok (.iconst (-1), 1) := by decide +kernel
theorem dX5_read_29 : decode cX5_read 29 = .ok (.putfield 45, 3) := by decide +kernel
theorem dX5_read_32 : decode cX5_read 32 = .ok (.aload_n 0, 1) := by decide +kernel
theorem dX5_read_33 : decode cX5_read 33 = .ok (.getfield 12, 3) := by decide +kernel
theorem dX5_read_36 : decode cX5_read 36 = .ok (.aload_n 1, 1) := by decide +kernel
theorem dX5_read_37 : decode cX5_read 37 = .ok (.iload_n 2, 1) := by decide +kernel
theorem dX5_read_38 : decode cX5_read 38 = .ok (.invokevirtual 48, 3) := by decide +kernel
theorem dX5_read_41 : decode cX5_read 41 = .ok (.aload_n 0, 1) := by decide +kernel
theorem dX5_read_42 : decode cX5_read 42 = .ok (.invokevirtual 52, 3) := by decide +kernel
theorem dX5_read_45 : decode cX5_read 45 = .ok (.iconst 0, 1) := by decide +kernel
theorem dX5_read_46 : decode cX5_read 46 = .ok (.istore_n 3, 1) := by decide +kernel
theorem dX5_read_47 : decode cX5_read 47 = .ok (.iload_n 3, 1) := by decide +kernel
theorem dX5_read_48 : decode cX5_read 48 = .ok (.sipush 900, 3) := by decide +kernel
theorem dX5_read_51 : decode cX5_read 51 = .ok (.if_icmp .ge 136, 3) := by decide +kernel
theorem dX5_read_54 : decode cX5_read 54 = .ok (.aload_n 0, 1) := by decide +kernel
theorem dX5_read_55 : decode cX5_read 55 = .ok (.getfield 41, 3) := by decide +kernel
theorem dX5_read_58 : decode cX5_read 58 = .ok (.ifCond .ne 129, 3) := by decide +kernel
theorem dX5_read_187 : decode cX5_read 187 = .ok (.aload_n 0, 1) := by decide +kernel
theorem dX5_read_188 : decode cX5_read 188 = .ok (.invokevirtual 87, 3) := by decide +kernel
theorem dX5_read_191 : decode cX5_read 191 = .ok (.return_, 1) := by decide +kernel
theorem dX5_refuse_0 : decode cX5_refuse 0 = .ok (.aload_n 0, 1) := by decide +kernel
theorem dX5_refuse_1 : decode cX5_refuse 1 = .ok (.getfield 41, 3) := by decide +kernel
theorem dX5_refuse_4 : decode cX5_refuse 4 = .ok (.ifCond .ne 41, 3) := by decide +kernel
theorem dX5_refuse_7 : decode cX5_refuse 7 = .ok (.aload_n 0, 1) := by decide +kernel
theorem dX5_refuse_8 : decode cX5_refuse 8 = .ok (.aload_n 0, 1) := by decide +kernel
theorem dX5_refuse_9 : decode cX5_refuse 9 = .ok (.getfield 12, 3) := by decide +kernel
theorem dX5_refuse_12 : decode cX5_refuse 12 = .ok (.getfield 55, 3) := by decide +kernel
theorem dX5_refuse_15 : decode cX5_refuse 15 = .ok (.iconst 1, 1) := by decide +kernel
theorem dX5_refuse_16 : decode cX5_refuse 16 = .ok (.if_icmp .ne 7, 3) := by decide +kernel
theorem dX5_refuse_23 : decode cX5_refuse 23 = .ok (.iload_n 1, 1) := by decide +kernel
theorem dX5_refuse_24 : decode cX5_refuse 24 = .ok (.putfield 41, 3) := by decide +kernel
theorem dX5_refuse_27 : decode cX5_refuse 27 = .ok (.aload_n 0, 1) := by decide +kernel
theorem dX5_refuse_28 : decode cX5_refuse 28 = .ok (.aload_n 0, 1) := by decide +kernel
theorem dX5_refuse_29 : decode cX5_refuse 29 = .ok (.getfield 12, 3) := by decide +kernel
theorem dX5_refuse_32 : decode cX5_refuse 32 = .ok (.getfield 90, 3) := by decide +kernel
theorem dX5_refuse_35 : decode cX5_refuse 35 = .ok (.putfield 45, 3) := by decide +kernel
theorem dX5_refuse_38 : decode cX5_refuse 38 = .ok (.aload_n 0, 1) := by decide +kernel
theorem dX5_refuse_39 : decode cX5_refuse 39 = .ok (.getfield 12, 3) := by decide +kernel
theorem dX5_refuse_42 : decode cX5_refuse 42 = .ok (.invokevirtual 92, 3) := by decide +kernel
theorem dX5_refuse_45 : decode cX5_refuse 45 = .ok (.return_, 1) := by decide +kernel
theorem dX5_expect_0 : decode cX5_expect 0 = .ok (.aload_n 0, 1) := by decide +kernel
theorem dX5_expect_1 : decode cX5_expect 1 = .ok (.getfield 12, 3) := by decide +kernel
theorem dX5_expect_4 : decode cX5_expect 4 = .ok (.getfield 55, 3) := by decide +kernel
theorem dX5_expect_7 : decode cX5_expect 7 = .ok (.iload_n 1, 1) := by decide +kernel
theorem dX5_expect_8 : decode cX5_expect 8 = .ok (.if_icmp .ne 13, 3) := by decide +kernel
theorem dX5_expect_21 : decode cX5_expect 21 = .ok (.aload_n 0, 1) := by decide +kernel
theorem dX5_expect_22 : decode cX5_expect 22 = .ok (.iconst 2, 1) := by decide +kernel
theorem dX5_expect_23 : decode cX5_expect 23 = .ok (.invokevirtual 80, 3) := by decide +kernel
theorem dX5_expect_26 : decode cX5_expect 26 = .ok (.return_, 1) := by decide +kernel
theorem dX5_number_0 : decode cX5_number 0 = .ok (.aload_n 0, 1) := by decide +kernel
theorem dX5_number_1 : decode cX5_number 1 = .ok (.getfield 12, 3) := by decide +kernel
theorem dX5_number_4 : decode cX5_number 4 = .ok (.invokevirtual 95, 3) := by decide +kernel
theorem dX5_number_7 : decode cX5_number 7 = .ok (.ifCond .ne 10, 3) := by decide +kernel
theorem dX5_number_10 : decode cX5_number 10 = .ok (.aload_n 0, 1) := by decide +kernel
theorem dX5_number_11 : decode cX5_number 11 = .ok (.iconst 2, 1) := by decide +kernel
theorem dX5_number_12 : decode cX5_number 12 = .ok (.invokevirtual 80, 3) := by decide +kernel
theorem dX5_number_15 : decode cX5_number 15 = .ok (.iload_n 1, 1) := by decide +kernel
theorem dX5_number_16 : decode cX5_number 16 = .ok (.ireturn, 1) := by decide +kernel
theorem dX5_lineEnd_0 : decode cX5_lineEnd 0 = .ok (.aload_n 0, 1) := by decide +kernel
theorem dX5_lineEnd_1 : decode cX5_lineEnd 1 = .ok (.bipush 59, 2) := by decide +kernel
theorem dX5_lineEnd_3 : decode cX5_lineEnd 3 = .ok (.invokevirtual 99, 3) := by decide +kernel
theorem dX5_lineEnd_6 : decode cX5_lineEnd 6 = .ok (.aload_n 0, 1) := by decide +kernel
theorem dX5_lineEnd_7 : decode cX5_lineEnd 7 = .ok (.getfield 31, 3) := by decide +kernel
theorem dX5_lineEnd_10 : decode cX5_lineEnd 10 = .ok (.dup, 1) := by decide +kernel
theorem dX5_lineEnd_11 : decode cX5_lineEnd 11 = .ok (.getfield 102, 3) := by decide +kernel
theorem dX5_lineEnd_14 : decode cX5_lineEnd 14 = .ok (.iconst 1, 1) := by decide +kernel
theorem dX5_lineEnd_15 : decode cX5_lineEnd 15 = .ok (.iadd, 1) := by decide +kernel
theorem dX5_lineEnd_16 : decode cX5_lineEnd 16 = .ok (.putfield 102, 3) := by decide +kernel
theorem dX5_lineEnd_19 : decode cX5_lineEnd 19 = .ok (.return_, 1) := by decide +kernel
theorem dX5_fallLine_0 : decode cX5_fallLine 0 = .ok (.aload_n 0, 1) := by decide +kernel
theorem dX5_fallLine_1 : decode cX5_fallLine 1 = .ok (.sipush 200, 3) := by decide +kernel
theorem dX5_fallLine_4 : decode cX5_fallLine 4 = .ok (.invokevirtual 99, 3) := by decide +kernel
theorem dX5_fallLine_7 : decode cX5_fallLine 7 = .ok (.aload_n 0, 1) := by decide +kernel
theorem dX5_fallLine_8 : decode cX5_fallLine 8 = .ok (.getfield 31, 3) := by decide +kernel
theorem dX5_fallLine_11 : decode cX5_fallLine 11 = .ok (.aload_n 0, 1) := by decide +kernel
theorem dX5_fallLine_12 : decode cX5_fallLine 12 = .ok (.iconst 1, 1) := by decide +kernel
theorem dX5_fallLine_13 : decode cX5_fallLine 13 = .ok (.bipush 6, 2) := by decide +kernel
theorem dX5_fallLine_15 : decode cX5_fallLine 15 = .ok (.invokevirtual 73, 3) := by decide +kernel
theorem dX5_fallLine_18 : decode cX5_fallLine 18 = .ok (.putfield 105, 3) := by decide +kernel
theorem dX5_fallLine_21 : decode cX5_fallLine 21 = .ok (.aload_n 0, 1) := by decide +kernel
theorem dX5_fallLine_22 : decode cX5_fallLine 22 = .ok (.getfield 12, 3) := by decide +kernel
theorem dX5_fallLine_25 : decode cX5_fallLine 25 = .ok (.invokevirtual 70, 3) := by decide +kernel
theorem dX5_fallLine_28 : decode cX5_fallLine 28 = .ok (.aload_n 0, 1) := by decide +kernel
theorem dX5_fallLine_29 : decode cX5_fallLine 29 = .ok (.getfield 31, 3) := by decide +kernel
theorem dX5_fallLine_32 : decode cX5_fallLine 32 = .ok (.aload_n 0, 1) := by decide +kernel
theorem dX5_fallLine_33 : decode cX5_fallLine 33 = .ok (.iconst 1, 1) := by decide +kernel
theorem dX5_fallLine_34 : decode cX5_fallLine 34 = .ok (.bipush 9, 2) := by decide +kernel
theorem dX5_fallLine_36 : decode cX5_fallLine 36 = .ok (.invokevirtual 73, 3) := by decide +kernel
theorem dX5_fallLine_39 : decode cX5_fallLine 39 = .ok (.putfield 108, 3) := by decide +kernel
theorem dX5_fallLine_42 : decode cX5_fallLine 42 = .ok (.aload_n 0, 1) := by decide +kernel
theorem dX5_fallLine_43 : decode cX5_fallLine 43 = .ok (.getfield 12, 3) := by decide +kernel
theorem dX5_fallLine_46 : decode cX5_fallLine 46 = .ok (.invokevirtual 70, 3) := by decide +kernel
theorem dX5_fallLine_49 : decode cX5_fallLine 49 = .ok (.aload_n 0, 1) := by decide +kernel
theorem dX5_fallLine_50 : decode cX5_fallLine 50 = .ok (.invokevirtual 84, 3) := by decide +kernel
theorem dX5_fallLine_53 : decode cX5_fallLine 53 = .ok (.return_, 1) := by decide +kernel
theorem dX5_countFromHour_0 : decode cX5_countFromHour 0 = .ok (.iconst 0, 1) := by decide +kernel
theorem dX5_countFromHour_1 : decode cX5_countFromHour 1 = .ok (.istore_n 1, 1) := by decide +kernel
theorem dX5_countFromHour_2 : decode cX5_countFromHour 2 = .ok (.iload_n 1, 1) := by decide +kernel
theorem dX5_countFromHour_3 : decode cX5_countFromHour 3 = .ok (.aload_n 0, 1) := by decide +kernel
theorem dX5_countFromHour_4 : decode cX5_countFromHour 4 = .ok (.getfield 31, 3) := by decide +kernel
theorem dX5_countFromHour_7 : decode cX5_countFromHour 7 = .ok (.getfield 111, 3) := by decide +kernel
theorem dX5_countFromHour_10 : decode cX5_countFromHour 10 = .ok (.if_icmp .ge 89, 3) := by decide +kernel
theorem dX5_countFromHour_99 : decode cX5_countFromHour 99 = .ok (.return_, 1) := by decide +kernel
theorem dX6_init_0 : decode cX6_init 0 = .ok (.aload_n 0, 1) := by decide +kernel
theorem dX6_init_1 : decode cX6_init 1 = .ok (.invokespecial 3, 3) := by decide +kernel
theorem dX6_init_4 : decode cX6_init 4 = .ok (.aload_n 0, 1) := by decide +kernel
theorem dX6_init_5 : decode cX6_init 5 = .ok (.bipush 8, 2) := by decide +kernel
theorem dX6_init_7 : decode cX6_init 7 = .ok (.newarray .int, 2) := by decide +kernel
theorem dX6_init_9 : decode cX6_init 9 = .ok (.putfield 9, 3) := by decide +kernel
theorem dX6_init_12 : decode cX6_init 12 = .ok (.aload_n 0, 1) := by decide +kernel
theorem dX6_init_13 : decode cX6_init 13 = .ok (.bipush 8, 2) := by decide +kernel
theorem dX6_init_15 : decode cX6_init 15 = .ok (.newarray .int, 2) := by decide +kernel
theorem dX6_init_17 : decode cX6_init 17 = .ok (.putfield 15, 3) := by decide +kernel
theorem dX6_init_20 : decode cX6_init 20 = .ok (.aload_n 0, 1) := by decide +kernel
theorem dX6_init_21 : decode cX6_init 21 = .ok (.bipush 8, 2) := by decide +kernel
theorem dX6_init_23 : decode cX6_init 23 = .ok (.newarray .int, 2) := by decide +kernel
theorem dX6_init_25 : decode cX6_init 25 = .ok (.putfield 18, 3) := by decide +kernel
theorem dX6_init_28 : decode cX6_init 28 = .ok (.aload_n 0, 1) := by decide +kernel
theorem dX6_init_29 : decode cX6_init 29 = .ok (.bipush 8, 2) := by decide +kernel
theorem dX6_init_31 : decode cX6_init 31 = .ok (.newarray .int, 2) := by decide +kernel
theorem dX6_init_33 : decode cX6_init 33 = .ok (.putfield 21, 3) := by decide +kernel
theorem dX6_init_36 : decode cX6_init 36 = .ok (.aload_n 0, 1) := by decide +kernel
theorem dX6_init_37 : decode cX6_init 37 = .ok (.iconst 4, 1) := by decide +kernel
theorem dX6_init_38 : decode cX6_init 38 = .ok (.newarray .int, 2) := by decide +kernel
theorem dX6_init_40 : decode cX6_init 40 = .ok (.putfield 24, 3) := by decide +kernel
theorem dX6_init_43 : decode cX6_init 43 = .ok (.aload_n 0, 1) := by decide +kernel
theorem dX6_init_44 : decode cX6_init 44 = .ok (.aload_n 1, 1) := by decide +kernel
theorem dX6_init_45 : decode cX6_init 45 = .ok (.putfield 27, 3) := by decide +kernel
theorem dX6_init_48 : decode cX6_init 48 = .ok (.return_, 1) := by decide +kernel
theorem dX6_begin_0 : decode cX6_begin 0 = .ok (.aload_n 0, 1) := by decide +kernel
theorem dX6_begin_1 : decode cX6_begin 1 = .ok (.aload_n 1, 1) := by decide +kernel
theorem dX6_begin_2 : decode cX6_begin 2 = .ok (.putfield 27, 3) := by decide +kernel
theorem dX6_begin_5 : decode cX6_begin 5 = .ok (.aload_n 0, 1) := by decide +kernel
theorem dX6_begin_6 : decode cX6_begin 6 = .ok (.iconst 0, 1) := by decide +kernel
theorem dX6_begin_7 : decode cX6_begin 7 = .ok (.putfield 31, 3) := by decide +kernel
theorem dX6_begin_10 : decode cX6_begin 10 = .ok (.aload_n 0, 1) := by decide +kernel
theorem dX6_begin_11 : decode cX6_begin 11 = .ok (.iconst 0, 1) := by decide +kernel
theorem dX6_begin_12 : decode cX6_begin 12 = .ok (.putfield 35, 3) := by decide +kernel
theorem dX6_begin_15 : decode cX6_begin 15 = .ok (.iconst 0, 1) := by decide +kernel
theorem dX6_begin_16 : decode cX6_begin 16 = .ok (.istore_n 2, 1) := by decide +kernel
theorem dX6_begin_17 : decode cX6_begin 17 = .ok (.iload_n 2, 1) := by decide +kernel
theorem dX6_begin_18 : decode cX6_begin 18 = .ok (.iconst 4, 1) := by decide +kernel
theorem dX6_begin_19 : decode cX6_begin 19 = .ok (.if_icmp .ge 16, 3) := by decide +kernel
theorem dX6_begin_22 : decode cX6_begin 22 = .ok (.aload_n 0, 1) := by decide +kernel
theorem dX6_begin_23 : decode cX6_begin 23 = .ok (.getfield 24, 3) := by decide +kernel
theorem dX6_begin_26 : decode cX6_begin 26 = .ok (.iload_n 2, 1) := by decide +kernel
theorem dX6_begin_27 : decode cX6_begin 27 = .ok (.iconst 0, 1) := by decide +kernel
theorem dX6_begin_28 : decode cX6_begin 28 = .ok (.iastore, 1) := by decide +kernel
theorem dX6_begin_29 : decode cX6_begin 29 = .ok (.iinc 2 1, 3) := by decide +kernel
theorem dX6_begin_32 : decode cX6_begin 32 = .ok (.goto (-15), 3) := by decide +kernel
theorem dX6_begin_35 : decode cX6_begin 35 = .ok (.return_, 1) := by decide +kernel
theorem dX6_copyFrom_0 : decode cX6_copyFrom 0 = .ok (.aload_n 0, 1) := by decide +kernel
theorem dX6_copyFrom_1 : decode cX6_copyFrom 1 = .ok (.aload_n 1, 1) := by decide +kernel
theorem dX6_copyFrom_2 : decode cX6_copyFrom 2 = .ok (.getfield 27, 3) := by decide +kernel
theorem dX6_copyFrom_5 : decode cX6_copyFrom 5 = .ok (.putfield 27, 3) := by decide +kernel
theorem dX6_copyFrom_8 : decode cX6_copyFrom 8 = .ok (.aload_n 0, 1) := by decide +kernel
theorem dX6_copyFrom_9 : decode cX6_copyFrom 9 = .ok (.aload_n 1, 1) := by decide +kernel
theorem dX6_copyFrom_10 : decode cX6_copyFrom 10 = .ok (.getfield 31, 3) := by decide +kernel
theorem dX6_copyFrom_13 : decode cX6_copyFrom 13 = .ok (.putfield 31, 3) := by decide +kernel
theorem dX6_copyFrom_16 : decode cX6_copyFrom 16 = .ok (.aload_n 0, 1) := by decide +kernel
theorem dX6_copyFrom_17 : decode cX6_copyFrom 17 = .ok (.aload_n 1, 1) := by decide +kernel
theorem dX6_copyFrom_18 : decode cX6_copyFrom 18 = .ok (.getfield 35, 3) := by decide +kernel
theorem dX6_copyFrom_21 : decode cX6_copyFrom 21 = .ok (.putfield 35, 3) := by decide +kernel
theorem dX6_copyFrom_24 : decode cX6_copyFrom 24 = .ok (.aload_n 1, 1) := by decide +kernel
theorem dX6_copyFrom_25 : decode cX6_copyFrom 25 = .ok (.getfield 9, 3) := by decide +kernel
theorem dX6_copyFrom_28 : decode cX6_copyFrom 28 = .ok (.iconst 0, 1) := by decide +kernel
theorem dX6_copyFrom_29 : decode cX6_copyFrom 29 = .ok (.aload_n 0, 1) := by decide +kernel
theorem dX6_copyFrom_30 : decode cX6_copyFrom 30 = .ok (.getfield 9, 3) := by decide +kernel
theorem dX6_copyFrom_33 : decode cX6_copyFrom 33 = .ok (.iconst 0, 1) := by decide +kernel
theorem dX6_copyFrom_34 : decode cX6_copyFrom 34 = .ok (.bipush 8, 2) := by decide +kernel
theorem dX6_copyFrom_36 : decode cX6_copyFrom 36 = .ok (.invokestatic 38, 3) := by decide +kernel
theorem dX6_copyFrom_39 : decode cX6_copyFrom 39 = .ok (.aload_n 1, 1) := by decide +kernel
theorem dX6_copyFrom_40 : decode cX6_copyFrom 40 = .ok (.getfield 15, 3) := by decide +kernel
theorem dX6_copyFrom_43 : decode cX6_copyFrom 43 = .ok (.iconst 0, 1) := by decide +kernel
theorem dX6_copyFrom_44 : decode cX6_copyFrom 44 = .ok (.aload_n 0, 1) := by decide +kernel
theorem dX6_copyFrom_45 : decode cX6_copyFrom 45 = .ok (.getfield 15, 3) := by decide +kernel
theorem dX6_copyFrom_48 : decode cX6_copyFrom 48 = .ok (.iconst 0, 1) := by decide +kernel
theorem dX6_copyFrom_49 : decode cX6_copyFrom 49 = .ok (.bipush 8, 2) := by decide +kernel
theorem dX6_copyFrom_51 : decode cX6_copyFrom 51 = .ok (.invokestatic 38, 3) := by decide +kernel
theorem dX6_copyFrom_54 : decode cX6_copyFrom 54 = .ok (.aload_n 1, 1) := by decide +kernel
theorem dX6_copyFrom_55 : decode cX6_copyFrom 55 = .ok (.getfield 18, 3) := by decide +kernel
theorem dX6_copyFrom_58 : decode cX6_copyFrom 58 = .ok (.iconst 0, 1) := by decide +kernel
theorem dX6_copyFrom_59 : decode cX6_copyFrom 59 = .ok (.aload_n 0, 1) := by decide +kernel
theorem dX6_copyFrom_60 : decode cX6_copyFrom 60 = .ok (.getfield 18, 3) := by decide +kernel
theorem dX6_copyFrom_63 : decode cX6_copyFrom 63 = .ok (.iconst 0, 1) := by decide +kernel
theorem dX6_copyFrom_64 : decode cX6_copyFrom 64 = .ok (.bipush 8, 2) := by decide +kernel
theorem dX6_copyFrom_66 : decode cX6_copyFrom 66 = .ok (.invokestatic 38, 3) := by decide +kernel
theorem dX6_copyFrom_69 : decode cX6_copyFrom 69 = .ok (.aload_n 1, 1) := by decide +kernel
theorem dX6_copyFrom_70 : decode cX6_copyFrom 70 = .ok (.getfield 21, 3) := by decide +kernel
theorem dX6_copyFrom_73 : decode cX6_copyFrom 73 = .ok (.iconst 0, 1) := by decide +kernel
theorem dX6_copyFrom_74 : decode cX6_copyFrom 74 = .ok (.aload_n 0, 1) := by decide +kernel
theorem dX6_copyFrom_75 : decode cX6_copyFrom 75 = .ok (.getfield 21, 3) := by decide +kernel
theorem dX6_copyFrom_78 : decode cX6_copyFrom 78 = .ok (.iconst 0, 1) := by decide +kernel
theorem dX6_copyFrom_79 : decode cX6_copyFrom 79 = .ok (.bipush 8, 2) := by decide +kernel
theorem dX6_copyFrom_81 : decode cX6_copyFrom 81 = .ok (.invokestatic 38, 3) := by decide +kernel
theorem dX6_copyFrom_84 : decode cX6_copyFrom 84 = .ok (.aload_n 1, 1) := by decide +kernel
theorem dX6_copyFrom_85 : decode cX6_copyFrom 85 = .ok (.getfield 24, 3) := by decide +kernel
theorem dX6_copyFrom_88 : decode cX6_copyFrom 88 = .ok (.iconst 0, 1) := by decide +kernel
theorem dX6_copyFrom_89 : decode cX6_copyFrom 89 = .ok (.aload_n 0, 1) := by decide +kernel
theorem dX6_copyFrom_90 : decode cX6_copyFrom 90 = .ok (.getfield 24, 3) := by decide +kernel
theorem dX6_copyFrom_93 : decode cX6_copyFrom 93 = .ok (.iconst 0, 1) := by decide +kernel
theorem dX6_copyFrom_94 : decode cX6_copyFrom 94 = .ok (.iconst 4, 1) := by decide +kernel
theorem dX6_copyFrom_95 : decode cX6_copyFrom 95 = .ok (.invokestatic 38, 3) := by decide +kernel
theorem dX6_copyFrom_98 : decode cX6_copyFrom 98 = .ok (.return_, 1) := by decide +kernel
theorem dX6_lying_0 : decode cX6_lying 0 = .ok (.iconst 0, 1) := by decide +kernel
theorem dX6_lying_1 : decode cX6_lying 1 = .ok (.istore_n 2, 1) := by decide +kernel
theorem dX6_lying_2 : decode cX6_lying 2 = .ok (.iconst 0, 1) := by decide +kernel
theorem dX6_lying_3 : decode cX6_lying 3 = .ok (.istore_n 3, 1) := by decide +kernel
theorem dX6_lying_4 : decode cX6_lying 4 = .ok (.iload_n 3, 1) := by decide +kernel
theorem dX6_lying_5 : decode cX6_lying 5 = .ok (.aload_n 0, 1) := by decide +kernel
theorem dX6_lying_6 : decode cX6_lying 6 = .ok (.getfield 27, 3) := by decide +kernel
theorem dX6_lying_9 : decode cX6_lying 9 = .ok (.getfield 44, 3) := by decide +kernel
theorem dX6_lying_12 : decode cX6_lying 12 = .ok (.if_icmp .ge 32, 3) := by decide +kernel
theorem dX6_lying_44 : decode cX6_lying 44 = .ok (.iload_n 2, 1) := by decide +kernel
theorem dX6_lying_45 : decode cX6_lying 45 = .ok (.ireturn, 1) := by decide +kernel
theorem dX6_thingAt_0 : decode cX6_thingAt 0 = .ok (.iconst 0, 1) := by decide +kernel
theorem dX6_thingAt_1 : decode cX6_thingAt 1 = .ok (.istore_n 3, 1) := by decide +kernel
theorem dX6_thingAt_2 : decode cX6_thingAt 2 = .ok (.iload_n 3, 1) := by decide +kernel
theorem dX6_thingAt_3 : decode cX6_thingAt 3 = .ok (.aload_n 0, 1) := by decide +kernel
theorem dX6_thingAt_4 : decode cX6_thingAt 4 = .ok (.getfield 27, 3) := by decide +kernel
theorem dX6_thingAt_7 : decode cX6_thingAt 7 = .ok (.getfield 44, 3) := by decide +kernel
theorem dX6_thingAt_10 : decode cX6_thingAt 10 = .ok (.if_icmp .ge 40, 3) := by decide +kernel
theorem dX6_thingAt_50 : decode cX6_thingAt 50 = .ok (.iconst (-1), 1) := by decide +kernel
theorem dX6_thingAt_51 : decode cX6_thingAt 51 = .ok (.ireturn, 1) := by decide +kernel
theorem dX6_countOf_0 : decode cX6_countOf 0 = .ok (.iconst 0, 1) := by decide +kernel
theorem dX6_countOf_1 : decode cX6_countOf 1 = .ok (.istore_n 2, 1) := by decide +kernel
theorem dX6_countOf_2 : decode cX6_countOf 2 = .ok (.iconst 0, 1) := by decide +kernel
theorem dX6_countOf_3 : decode cX6_countOf 3 = .ok (.istore_n 3, 1) := by decide +kernel
theorem dX6_countOf_4 : decode cX6_countOf 4 = .ok (.iload_n 3, 1) := by decide +kernel
theorem dX6_countOf_5 : decode cX6_countOf 5 = .ok (.aload_n 0, 1) := by decide +kernel
theorem dX6_countOf_6 : decode cX6_countOf 6 = .ok (.getfield 27, 3) := by decide +kernel
theorem dX6_countOf_9 : decode cX6_countOf 9 = .ok (.getfield 44, 3) := by decide +kernel
theorem dX6_countOf_12 : decode cX6_countOf 12 = .ok (.if_icmp .ge 22, 3) := by decide +kernel
theorem dX6_countOf_34 : decode cX6_countOf 34 = .ok (.iload_n 2, 1) := by decide +kernel
theorem dX6_countOf_35 : decode cX6_countOf 35 = .ok (.ireturn, 1) := by decide +kernel
theorem dX6_totalHurt_0 : decode cX6_totalHurt 0 = .ok (.iconst 0, 1) := by decide +kernel
theorem dX6_totalHurt_1 : decode cX6_totalHurt 1 = .ok (.istore_n 1, 1) := by decide +kernel
theorem dX6_totalHurt_2 : decode cX6_totalHurt 2 = .ok (.iconst 0, 1) := by decide +kernel
theorem dX6_totalHurt_3 : decode cX6_totalHurt 3 = .ok (.istore_n 2, 1) := by decide +kernel
theorem dX6_totalHurt_4 : decode cX6_totalHurt 4 = .ok (.iload_n 2, 1) := by decide +kernel
theorem dX6_totalHurt_5 : decode cX6_totalHurt 5 = .ok (.aload_n 0, 1) := by decide +kernel
theorem dX6_totalHurt_6 : decode cX6_totalHurt 6 = .ok (.getfield 27, 3) := by decide +kernel
theorem dX6_totalHurt_9 : decode cX6_totalHurt 9 = .ok (.getfield 49, 3) := by decide +kernel
theorem dX6_totalHurt_12 : decode cX6_totalHurt 12 = .ok (.if_icmp .ge 18, 3) := by decide +kernel
theorem dX6_totalHurt_30 : decode cX6_totalHurt 30 = .ok (.iload_n 1, 1) := by decide +kernel
theorem dX6_totalHurt_31 : decode cX6_totalHurt 31 = .ok (.ireturn, 1) := by decide +kernel
theorem dX6_weightOf_0 : decode cX6_weightOf 0 = .ok (.iconst 0, 1) := by decide +kernel
theorem dX6_weightOf_1 : decode cX6_weightOf 1 = .ok (.istore_n 3, 1) := by decide +kernel
theorem dX6_weightOf_2 : decode cX6_weightOf 2 = .ok (.iconst 0, 1) := by decide +kernel
theorem dX6_weightOf_3 : decode cX6_weightOf 3 = .ok (.istore 4, 2) := by decide +kernel
theorem dX6_weightOf_5 : decode cX6_weightOf 5 = .ok (.iload 4, 2) := by decide +kernel
theorem dX6_weightOf_7 : decode cX6_weightOf 7 = .ok (.aload_n 0, 1) := by decide +kernel
theorem dX6_weightOf_8 : decode cX6_weightOf 8 = .ok (.getfield 27, 3) := by decide +kernel
theorem dX6_weightOf_11 : decode cX6_weightOf 11 = .ok (.getfield 44, 3) := by decide +kernel
theorem dX6_weightOf_14 : decode cX6_weightOf 14 = .ok (.if_icmp .ge 42, 3) := by decide +kernel
theorem dX6_weightOf_56 : decode cX6_weightOf 56 = .ok (.iload_n 3, 1) := by decide +kernel
theorem dX6_weightOf_57 : decode cX6_weightOf 57 = .ok (.ireturn, 1) := by decide +kernel
theorem dX6_whyNotLetGo_0 : decode cX6_whyNotLetGo 0 = .ok (.iload_n 1, 1) := by decide +kernel
theorem dX6_whyNotLetGo_1 : decode cX6_whyNotLetGo 1 = .ok (.ifCond .lt 26, 3) := by decide +kernel
theorem dX6_whyNotLetGo_4 : decode cX6_whyNotLetGo 4 = .ok (.iload_n 1, 1) := by decide +kernel
theorem dX6_whyNotLetGo_5 : decode cX6_whyNotLetGo 5 = .ok (.aload_n 0, 1) := by decide +kernel
theorem dX6_whyNotLetGo_6 : decode cX6_whyNotLetGo 6 = .ok (.getfield 27, 3) := by decide +kernel
theorem dX6_whyNotLetGo_9 : decode cX6_whyNotLetGo 9 = .ok (.getfield 44, 3) := by decide +kernel
theorem dX6_whyNotLetGo_12 : decode cX6_whyNotLetGo 12 = .ok (.if_icmp .ge 15, 3) := by decide +kernel
theorem dX6_whyNotLetGo_27 : decode cX6_whyNotLetGo 27 = .ok (.iconst 1, 1) := by decide +kernel
theorem dX6_whyNotLetGo_28 : decode cX6_whyNotLetGo 28 = .ok (.ireturn, 1) := by decide +kernel
theorem dX6_whyNotTake_0 : decode cX6_whyNotTake 0 = .ok (.iload_n 1, 1) := by decide +kernel
theorem dX6_whyNotTake_1 : decode cX6_whyNotTake 1 = .ok (.ifCond .lt 14, 3) := by decide +kernel
theorem dX6_whyNotTake_4 : decode cX6_whyNotTake 4 = .ok (.iload_n 1, 1) := by decide +kernel
theorem dX6_whyNotTake_5 : decode cX6_whyNotTake 5 = .ok (.aload_n 0, 1) := by decide +kernel
theorem dX6_whyNotTake_6 : decode cX6_whyNotTake 6 = .ok (.getfield 27, 3) := by decide +kernel
theorem dX6_whyNotTake_9 : decode cX6_whyNotTake 9 = .ok (.getfield 44, 3) := by decide +kernel
theorem dX6_whyNotTake_12 : decode cX6_whyNotTake 12 = .ok (.if_icmp .lt 5, 3) := by decide +kernel
theorem dX6_whyNotTake_15 : decode cX6_whyNotTake 15 = .ok (.iconst 1, 1) := by decide +kernel
theorem dX6_whyNotTake_16 : decode cX6_whyNotTake 16 = .ok (.ireturn, 1) := by decide +kernel
theorem dX6_shake_0 : decode cX6_shake 0 = .ok (.aload_n 0, 1) := by decide +kernel
theorem dX6_shake_1 : decode cX6_shake 1 = .ok (.iconst 0, 1) := by decide +kernel
theorem dX6_shake_2 : decode cX6_shake 2 = .ok (.putfield 35, 3) := by decide +kernel
theorem dX6_shake_5 : decode cX6_shake 5 = .ok (.iconst 0, 1) := by decide +kernel
theorem dX6_shake_6 : decode cX6_shake 6 = .ok (.istore_n 1, 1) := by decide +kernel
theorem dX6_shake_7 : decode cX6_shake 7 = .ok (.iload_n 1, 1) := by decide +kernel
theorem dX6_shake_8 : decode cX6_shake 8 = .ok (.aload_n 0, 1) := by decide +kernel
theorem dX6_shake_9 : decode cX6_shake 9 = .ok (.getfield 27, 3) := by decide +kernel
theorem dX6_shake_12 : decode cX6_shake 12 = .ok (.getfield 78, 3) := by decide +kernel
theorem dX6_shake_15 : decode cX6_shake 15 = .ok (.if_icmp .ge 21, 3) := by decide +kernel
theorem dX6_shake_18 : decode cX6_shake 18 = .ok (.aload_n 0, 1) := by decide +kernel
theorem dX6_shake_19 : decode cX6_shake 19 = .ok (.iload_n 1, 1) := by decide +kernel
theorem dX6_shake_20 : decode cX6_shake 20 = .ok (.aload_n 0, 1) := by decide +kernel
theorem dX6_shake_21 : decode cX6_shake 21 = .ok (.iload_n 1, 1) := by decide +kernel
theorem dX6_shake_22 : decode cX6_shake 22 = .ok (.ldc 81, 2) := by decide +kernel
theorem dX6_shake_24 : decode cX6_shake 24 = .ok (.invokevirtual 82, 3) := by decide +kernel
theorem dX6_shake_27 : decode cX6_shake 27 = .ok (.invokevirtual 74, 3) := by decide +kernel
theorem dX6_shake_30 : decode cX6_shake 30 = .ok (.iinc 1 1, 3) := by decide +kernel
theorem dX6_shake_33 : decode cX6_shake 33 = .ok (.goto (-26), 3) := by decide +kernel
theorem dX6_shake_36 : decode cX6_shake 36 = .ok (.aload_n 0, 1) := by decide +kernel
theorem dX6_shake_37 : decode cX6_shake 37 = .ok (.getfield 35, 3) := by decide +kernel
theorem dX6_shake_40 : decode cX6_shake 40 = .ok (.invokestatic 85, 3) := by decide +kernel
theorem dX6_shake_43 : decode cX6_shake 43 = .ok (.ireturn, 1) := by decide +kernel
theorem dX6_passTo_0 : decode cX6_passTo 0 = .ok (.iconst 0, 1) := by decide +kernel
theorem dX6_passTo_1 : decode cX6_passTo 1 = .ok (.istore_n 2, 1) := by decide +kernel
theorem dX6_passTo_2 : decode cX6_passTo 2 = .ok (.iconst 0, 1) := by decide +kernel
theorem dX6_passTo_3 : decode cX6_passTo 3 = .ok (.istore_n 3, 1) := by decide +kernel
theorem dX6_passTo_4 : decode cX6_passTo 4 = .ok (.iload_n 3, 1) := by decide +kernel
theorem dX6_passTo_5 : decode cX6_passTo 5 = .ok (.bipush 8, 2) := by decide +kernel
theorem dX6_passTo_7 : decode cX6_passTo 7 = .ok (.if_icmp .ge 30, 3) := by decide +kernel
theorem dX6_passTo_10 : decode cX6_passTo 10 = .ok (.aload_n 0, 1) := by decide +kernel
theorem dX6_passTo_11 : decode cX6_passTo 11 = .ok (.iload_n 1, 1) := by decide +kernel
theorem dX6_passTo_12 : decode cX6_passTo 12 = .ok (.invokevirtual 90, 3) := by decide +kernel
theorem dX6_passTo_15 : decode cX6_passTo 15 = .ok (.ifCond .ne 6, 3) := by decide +kernel
theorem dX6_passTo_18 : decode cX6_passTo 18 = .ok (.goto 19, 3) := by decide +kernel
theorem dX6_passTo_37 : decode cX6_passTo 37 = .ok (.aload_n 0, 1) := by decide +kernel
theorem dX6_passTo_38 : decode cX6_passTo 38 = .ok (.iload_n 1, 1) := by decide +kernel
theorem dX6_passTo_39 : decode cX6_passTo 39 = .ok (.putfield 31, 3) := by decide +kernel
theorem dX6_passTo_42 : decode cX6_passTo 42 = .ok (.iload_n 2, 1) := by decide +kernel
theorem dX6_passTo_43 : decode cX6_passTo 43 = .ok (.ireturn, 1) := by decide +kernel
theorem dX6_nextFall_0 : decode cX6_nextFall 0 = .ok (.ldc 81, 2) := by decide +kernel
theorem dX6_nextFall_2 : decode cX6_nextFall 2 = .ok (.istore_n 2, 1) := by decide +kernel
theorem dX6_nextFall_3 : decode cX6_nextFall 3 = .ok (.iconst 0, 1) := by decide +kernel
theorem dX6_nextFall_4 : decode cX6_nextFall 4 = .ok (.istore_n 3, 1) := by decide +kernel
theorem dX6_nextFall_5 : decode cX6_nextFall 5 = .ok (.iload_n 3, 1) := by decide +kernel
theorem dX6_nextFall_6 : decode cX6_nextFall 6 = .ok (.aload_n 0, 1) := by decide +kernel
theorem dX6_nextFall_7 : decode cX6_nextFall 7 = .ok (.getfield 27, 3) := by decide +kernel
theorem dX6_nextFall_10 : decode cX6_nextFall 10 = .ok (.getfield 44, 3) := by decide +kernel
theorem dX6_nextFall_13 : decode cX6_nextFall 13 = .ok (.if_icmp .ge 30, 3) := by decide +kernel
theorem dX6_nextFall_43 : decode cX6_nextFall 43 = .ok (.iload_n 2, 1) := by decide +kernel
theorem dX6_nextFall_44 : decode cX6_nextFall 44 = .ok (.ldc 81, 2) := by decide +kernel
theorem dX6_nextFall_46 : decode cX6_nextFall 46 = .ok (.if_icmp .eq 8, 3) := by decide +kernel
theorem dX6_nextFall_54 : decode cX6_nextFall 54 = .ok (.iconst 0, 1) := by decide +kernel
theorem dX6_nextFall_55 : decode cX6_nextFall 55 = .ok (.ireturn, 1) := by decide +kernel
theorem dX6_dueIn_0 : decode cX6_dueIn 0 = .ok (.iconst 0, 1) := by decide +kernel
theorem dX6_dueIn_1 : decode cX6_dueIn 1 = .ok (.istore_n 3, 1) := by decide +kernel
theorem dX6_dueIn_2 : decode cX6_dueIn 2 = .ok (.iconst 0, 1) := by decide +kernel
theorem dX6_dueIn_3 : decode cX6_dueIn 3 = .ok (.istore 4, 2) := by decide +kernel
theorem dX6_dueIn_5 : decode cX6_dueIn 5 = .ok (.iload 4, 2) := by decide +kernel
theorem dX6_dueIn_7 : decode cX6_dueIn 7 = .ok (.aload_n 0, 1) := by decide +kernel
theorem dX6_dueIn_8 : decode cX6_dueIn 8 = .ok (.getfield 27, 3) := by decide +kernel
theorem dX6_dueIn_11 : decode cX6_dueIn 11 = .ok (.getfield 44, 3) := by decide +kernel
theorem dX6_dueIn_14 : decode cX6_dueIn 14 = .ok (.if_icmp .ge 49, 3) := by decide +kernel
theorem dX6_dueIn_63 : decode cX6_dueIn 63 = .ok (.iload_n 3, 1) := by decide +kernel
theorem dX6_dueIn_64 : decode cX6_dueIn 64 = .ok (.ireturn, 1) := by decide +kernel
theorem dX6_drop_0 : decode cX6_drop 0 = .ok (.aload_n 0, 1) := by decide +kernel
theorem dX6_drop_1 : decode cX6_drop 1 = .ok (.iload_n 1, 1) := by decide +kernel
theorem dX6_drop_2 : decode cX6_drop 2 = .ok (.iload_n 2, 1) := by decide +kernel
theorem dX6_drop_3 : decode cX6_drop 3 = .ok (.invokevirtual 99, 3) := by decide +kernel
theorem dX6_drop_6 : decode cX6_drop 6 = .ok (.istore_n 3, 1) := by decide +kernel
theorem dX6_drop_7 : decode cX6_drop 7 = .ok (.aload_n 0, 1) := by decide +kernel
theorem dX6_drop_8 : decode cX6_drop 8 = .ok (.iload_n 1, 1) := by decide +kernel
theorem dX6_drop_9 : decode cX6_drop 9 = .ok (.invokevirtual 55, 3) := by decide +kernel
theorem dX6_drop_12 : decode cX6_drop 12 = .ok (.istore 4, 2) := by decide +kernel
theorem dX6_drop_14 : decode cX6_drop 14 = .ok (.iconst 0, 1) := by decide +kernel
theorem dX6_drop_15 : decode cX6_drop 15 = .ok (.istore 5, 2) := by decide +kernel
theorem dX6_drop_17 : decode cX6_drop 17 = .ok (.iload 5, 2) := by decide +kernel
theorem dX6_drop_19 : decode cX6_drop 19 = .ok (.aload_n 0, 1) := by decide +kernel
theorem dX6_drop_20 : decode cX6_drop 20 = .ok (.getfield 27, 3) := by decide +kernel
theorem dX6_drop_23 : decode cX6_drop 23 = .ok (.getfield 102, 3) := by decide +kernel
theorem dX6_drop_26 : decode cX6_drop 26 = .ok (.if_icmp .ge 63, 3) := by decide +kernel
theorem dX6_drop_29 : decode cX6_drop 29 = .ok (.aload_n 0, 1) := by decide +kernel
theorem dX6_drop_30 : decode cX6_drop 30 = .ok (.iload_n 1, 1) := by decide +kernel
theorem dX6_drop_31 : decode cX6_drop 31 = .ok (.iload 5, 2) := by decide +kernel
theorem dX6_drop_33 : decode cX6_drop 33 = .ok (.invokevirtual 59, 3) := by decide +kernel
theorem dX6_drop_36 : decode cX6_drop 36 = .ok (.istore 6, 2) := by decide +kernel
theorem dX6_drop_38 : decode cX6_drop 38 = .ok (.iload 6, 2) := by decide +kernel
theorem dX6_drop_40 : decode cX6_drop 40 = .ok (.ifCond .lt 43, 3) := by decide +kernel
theorem dX6_drop_83 : decode cX6_drop 83 = .ok (.iinc 5 1, 3) := by decide +kernel
theorem dX6_drop_86 : decode cX6_drop 86 = .ok (.goto (-69), 3) := by decide +kernel
theorem dX6_drop_89 : decode cX6_drop 89 = .ok (.aload_n 0, 1) := by decide +kernel
theorem dX6_drop_90 : decode cX6_drop 90 = .ok (.iload_n 3, 1) := by decide +kernel
theorem dX6_drop_91 : decode cX6_drop 91 = .ok (.iload_n 1, 1) := by decide +kernel
theorem dX6_drop_92 : decode cX6_drop 92 = .ok (.invokevirtual 105, 3) := by decide +kernel
theorem dX6_drop_95 : decode cX6_drop 95 = .ok (.istore 5, 2) := by decide +kernel
theorem dX6_drop_97 : decode cX6_drop 97 = .ok (.iconst 0, 1) := by decide +kernel
theorem dX6_drop_98 : decode cX6_drop 98 = .ok (.istore 6, 2) := by decide +kernel
theorem dX6_drop_100 : decode cX6_drop 100 = .ok (.iload 6, 2) := by decide +kernel
theorem dX6_drop_102 : decode cX6_drop 102 = .ok (.aload_n 0, 1) := by decide +kernel
theorem dX6_drop_103 : decode cX6_drop 103 = .ok (.getfield 27, 3) := by decide +kernel
theorem dX6_drop_106 : decode cX6_drop 106 = .ok (.getfield 49, 3) := by decide +kernel
theorem dX6_drop_109 : decode cX6_drop 109 = .ok (.if_icmp .ge 38, 3) := by decide +kernel
theorem dX6_drop_147 : decode cX6_drop 147 = .ok (.aload_n 0, 1) := by decide +kernel
theorem dX6_drop_148 : decode cX6_drop 148 = .ok (.dup, 1) := by decide +kernel
theorem dX6_drop_149 : decode cX6_drop 149 = .ok (.getfield 35, 3) := by decide +kernel
theorem dX6_drop_152 : decode cX6_drop 152 = .ok (.iload_n 3, 1) := by decide +kernel
theorem dX6_drop_153 : decode cX6_drop 153 = .ok (.ior, 1) := by decide +kernel
theorem dX6_drop_154 : decode cX6_drop 154 = .ok (.putfield 35, 3) := by decide +kernel
theorem dX6_drop_157 : decode cX6_drop 157 = .ok (.return_, 1) := by decide +kernel
theorem dX6_falling_0 : decode cX6_falling 0 = .ok (.iload_n 2, 1) := by decide +kernel
theorem dX6_falling_1 : decode cX6_falling 1 = .ok (.istore_n 3, 1) := by decide +kernel
theorem dX6_falling_2 : decode cX6_falling 2 = .ok (.iload_n 2, 1) := by decide +kernel
theorem dX6_falling_3 : decode cX6_falling 3 = .ok (.ifCond .ne 5, 3) := by decide +kernel
theorem dX6_falling_6 : decode cX6_falling 6 = .ok (.iconst 0, 1) := by decide +kernel
theorem dX6_falling_7 : decode cX6_falling 7 = .ok (.ireturn, 1) := by decide +kernel
theorem dX7_init_0 : decode cX7_init 0 = .ok (.aload_n 0, 1) := by decide +kernel
theorem dX7_init_1 : decode cX7_init 1 = .ok (.invokespecial 3, 3) := by decide +kernel
theorem dX7_init_4 : decode cX7_init 4 = .ok (.aload_n 0, 1) := by decide +kernel
theorem dX7_init_5 : decode cX7_init 5 = .ok (.sipush 901, 3) := by decide +kernel
theorem dX7_init_8 : decode cX7_init 8 = .ok (.newarray .int, 2) := by decide +kernel
theorem dX7_init_10 : decode cX7_init 10 = .ok (.putfield 9, 3) := by decide +kernel
theorem dX7_init_13 : decode cX7_init 13 = .ok (.aload_n 0, 1) := by decide +kernel
theorem dX7_init_14 : decode cX7_init 14 = .ok (.sipush 901, 3) := by decide +kernel
theorem dX7_init_17 : decode cX7_init 17 = .ok (.newarray .int, 2) := by decide +kernel
theorem dX7_init_19 : decode cX7_init 19 = .ok (.putfield 15, 3) := by decide +kernel
theorem dX7_init_22 : decode cX7_init 22 = .ok (.return_, 1) := by decide +kernel
theorem dX7_scan_0 : decode cX7_scan 0 = .ok (.aload_n 0, 1) := by decide +kernel
theorem dX7_scan_1 : decode cX7_scan 1 = .ok (.iconst 0, 1) := by decide +kernel
theorem dX7_scan_2 : decode cX7_scan 2 = .ok (.putfield 18, 3) := by decide +kernel
theorem dX7_scan_5 : decode cX7_scan 5 = .ok (.iconst 0, 1) := by decide +kernel
theorem dX7_scan_6 : decode cX7_scan 6 = .ok (.istore_n 3, 1) := by decide +kernel
theorem dX7_scan_7 : decode cX7_scan 7 = .ok (.iconst (-1), 1) := by decide +kernel
theorem dX7_scan_8 : decode cX7_scan 8 = .ok (.istore 4, 2) := by decide +kernel
theorem dX7_scan_10 : decode cX7_scan 10 = .ok (.iconst 0, 1) := by decide +kernel
theorem dX7_scan_11 : decode cX7_scan 11 = .ok (.istore 5, 2) := by decide +kernel
theorem dX7_scan_13 : decode cX7_scan 13 = .ok (.iload 5, 2) := by decide +kernel
theorem dX7_scan_15 : decode cX7_scan 15 = .ok (.iload_n 2, 1) := by decide +kernel
theorem dX7_scan_16 : decode cX7_scan 16 = .ok (.if_icmp .ge 171, 3) := by decide +kernel
theorem dX7_scan_187 : decode cX7_scan 187 = .ok (.iload 4, 2) := by decide +kernel
theorem dX7_scan_189 : decode cX7_scan 189 = .ok (.iconst 1, 1) := by decide +kernel
theorem dX7_scan_190 : decode cX7_scan 190 = .ok (.if_icmp .eq 9, 3) := by decide +kernel
theorem dX7_scan_193 : decode cX7_scan 193 = .ok (.aload_n 0, 1) := by decide +kernel
theorem dX7_scan_194 : decode cX7_scan 194 = .ok (.iconst 0, 1) := by decide +kernel
theorem dX7_scan_195 : decode cX7_scan 195 = .ok (.iload_n 2, 1) := by decide +kernel
theorem dX7_scan_196 : decode cX7_scan 196 = .ok (.invokevirtual 45, 3) := by decide +kernel
theorem dX7_scan_199 : decode cX7_scan 199 = .ok (.aload_n 0, 1) := by decide +kernel
theorem dX7_scan_200 : decode cX7_scan 200 = .ok (.iconst 0, 1) := by decide +kernel
theorem dX7_scan_201 : decode cX7_scan 201 = .ok (.putfield 49, 3) := by decide +kernel
theorem dX7_scan_204 : decode cX7_scan 204 = .ok (.aload_n 0, 1) := by decide +kernel
theorem dX7_scan_205 : decode cX7_scan 205 = .ok (.aload_n 0, 1) := by decide +kernel
theorem dX7_scan_206 : decode cX7_scan 206 = .ok (.getfield 9, 3) := by decide +kernel
theorem dX7_scan_209 : decode cX7_scan 209 = .ok (.iconst 0, 1) := by decide +kernel
theorem dX7_scan_210 : decode cX7_scan 210 = .ok (.iaload, 1) := by decide +kernel
theorem dX7_scan_211 : decode cX7_scan 211 = .ok (.putfield 52, 3) := by decide +kernel
theorem dX7_scan_214 : decode cX7_scan 214 = .ok (.aload_n 0, 1) := by decide +kernel
theorem dX7_scan_215 : decode cX7_scan 215 = .ok (.aload_n 0, 1) := by decide +kernel
theorem dX7_scan_216 : decode cX7_scan 216 = .ok (.getfield 15, 3) := by decide +kernel
theorem dX7_scan_219 : decode cX7_scan 219 = .ok (.iconst 0, 1) := by decide +kernel
theorem dX7_scan_220 : decode cX7_scan 220 = .ok (.iaload, 1) := by decide +kernel
theorem dX7_scan_221 : decode cX7_scan 221 = .ok (.putfield 55, 3) := by decide +kernel
theorem dX7_scan_224 : decode cX7_scan 224 = .ok (.return_, 1) := by decide +kernel
theorem dX7_append_0 : decode cX7_append 0 = .ok (.aload_n 0, 1) := by decide +kernel
theorem dX7_append_1 : decode cX7_append 1 = .ok (.getfield 18, 3) := by decide +kernel
theorem dX7_append_4 : decode cX7_append 4 = .ok (.aload_n 0, 1) := by decide +kernel
theorem dX7_append_5 : decode cX7_append 5 = .ok (.getfield 9, 3) := by decide +kernel
theorem dX7_append_8 : decode cX7_append 8 = .ok (.arraylength, 1) := by decide +kernel
theorem dX7_append_9 : decode cX7_append 9 = .ok (.if_icmp .ge 33, 3) := by decide +kernel
theorem dX7_append_12 : decode cX7_append 12 = .ok (.aload_n 0, 1) := by decide +kernel
theorem dX7_append_13 : decode cX7_append 13 = .ok (.getfield 9, 3) := by decide +kernel
theorem dX7_append_16 : decode cX7_append 16 = .ok (.aload_n 0, 1) := by decide +kernel
theorem dX7_append_17 : decode cX7_append 17 = .ok (.getfield 18, 3) := by decide +kernel
theorem dX7_append_20 : decode cX7_append 20 = .ok (.iload_n 1, 1) := by decide +kernel
theorem dX7_append_21 : decode cX7_append 21 = .ok (.iastore, 1) := by decide +kernel
theorem dX7_append_22 : decode cX7_append 22 = .ok (.aload_n 0, 1) := by decide +kernel
theorem dX7_append_23 : decode cX7_append 23 = .ok (.getfield 15, 3) := by decide +kernel
theorem dX7_append_26 : decode cX7_append 26 = .ok (.aload_n 0, 1) := by decide +kernel
theorem dX7_append_27 : decode cX7_append 27 = .ok (.getfield 18, 3) := by decide +kernel
theorem dX7_append_30 : decode cX7_append 30 = .ok (.iload_n 2, 1) := by decide +kernel
theorem dX7_append_31 : decode cX7_append 31 = .ok (.iastore, 1) := by decide +kernel
theorem dX7_append_32 : decode cX7_append 32 = .ok (.aload_n 0, 1) := by decide +kernel
theorem dX7_append_33 : decode cX7_append 33 = .ok (.dup, 1) := by decide +kernel
theorem dX7_append_34 : decode cX7_append 34 = .ok (.getfield 18, 3) := by decide +kernel
theorem dX7_append_37 : decode cX7_append 37 = .ok (.iconst 1, 1) := by decide +kernel
theorem dX7_append_38 : decode cX7_append 38 = .ok (.iadd, 1) := by decide +kernel
theorem dX7_append_39 : decode cX7_append 39 = .ok (.putfield 18, 3) := by decide +kernel
theorem dX7_append_42 : decode cX7_append 42 = .ok (.return_, 1) := by decide +kernel
theorem dX7_advance_0 : decode cX7_advance 0 = .ok (.aload_n 0, 1) := by decide +kernel
theorem dX7_advance_1 : decode cX7_advance 1 = .ok (.getfield 49, 3) := by decide +kernel
theorem dX7_advance_4 : decode cX7_advance 4 = .ok (.iconst 1, 1) := by decide +kernel
theorem dX7_advance_5 : decode cX7_advance 5 = .ok (.iadd, 1) := by decide +kernel
theorem dX7_advance_6 : decode cX7_advance 6 = .ok (.aload_n 0, 1) := by decide +kernel
theorem dX7_advance_7 : decode cX7_advance 7 = .ok (.getfield 18, 3) := by decide +kernel
theorem dX7_advance_10 : decode cX7_advance 10 = .ok (.if_icmp .ge 39, 3) := by decide +kernel
theorem dX7_advance_49 : decode cX7_advance 49 = .ok (.return_, 1) := by decide +kernel
theorem dX7_stop_0 : decode cX7_stop 0 = .ok (.aload_n 0, 1) := by decide +kernel
theorem dX7_stop_1 : decode cX7_stop 1 = .ok (.iconst 0, 1) := by decide +kernel
theorem dX7_stop_2 : decode cX7_stop 2 = .ok (.putfield 18, 3) := by decide +kernel
theorem dX7_stop_5 : decode cX7_stop 5 = .ok (.aload_n 0, 1) := by decide +kernel
theorem dX7_stop_6 : decode cX7_stop 6 = .ok (.iconst 1, 1) := by decide +kernel
theorem dX7_stop_7 : decode cX7_stop 7 = .ok (.putfield 52, 3) := by decide +kernel
theorem dX7_stop_10 : decode cX7_stop 10 = .ok (.return_, 1) := by decide +kernel
theorem dX7_isNumber_0 : decode cX7_isNumber 0 = .ok (.aload_n 0, 1) := by decide +kernel
theorem dX7_isNumber_1 : decode cX7_isNumber 1 = .ok (.getfield 52, 3) := by decide +kernel
theorem dX7_isNumber_4 : decode cX7_isNumber 4 = .ok (.sipush 1000, 3) := by decide +kernel
theorem dX7_isNumber_7 : decode cX7_isNumber 7 = .ok (.if_icmp .lt 7, 3) := by decide +kernel
theorem dX7_isNumber_14 : decode cX7_isNumber 14 = .ok (.iconst 0, 1) := by decide +kernel
theorem dX7_isNumber_15 : decode cX7_isNumber 15 = .ok (.ireturn, 1) := by decide +kernel
theorem dX8_init_0 : decode cX8_init 0 = .ok (.aload_n 0, 1) := by decide +kernel
theorem dX8_init_1 : decode cX8_init 1 = .ok (.invokespecial 3, 3) := by decide +kernel
theorem dX8_init_4 : decode cX8_init 4 = .ok (.aload_n 0, 1) := by decide +kernel
theorem dX8_init_5 : decode cX8_init 5 = .ok (.iconst (-1), 1) := by decide +kernel
theorem dX8_init_6 : decode cX8_init 6 = .ok (.putfield 9, 3) := by decide +kernel
theorem dX8_init_9 : decode cX8_init 9 = .ok (.aload_n 0, 1) := by decide +kernel
theorem dX8_init_10 : decode cX8_init 10 = .ok (.bipush 30, 2) := by decide +kernel
theorem dX8_init_12 : decode cX8_init 12 = .ok (.newarray .long, 2) := by decide +kernel
theorem dX8_init_14 : decode cX8_init 14 = .ok (.putfield 15, 3) := by decide +kernel
theorem dX8_init_17 : decode cX8_init 17 = .ok (.return_, 1) := by decide +kernel
theorem dX8_lay_0 : decode cX8_lay 0 = .ok (.aload_n 0, 1) := by decide +kernel
theorem dX8_lay_1 : decode cX8_lay 1 = .ok (.iload_n 1, 1) := by decide +kernel
theorem dX8_lay_2 : decode cX8_lay 2 = .ok (.putfield 9, 3) := by decide +kernel
theorem dX8_lay_5 : decode cX8_lay 5 = .ok (.aload_n 0, 1) := by decide +kernel
theorem dX8_lay_6 : decode cX8_lay 6 = .ok (.iload_n 2, 1) := by decide +kernel
theorem dX8_lay_7 : decode cX8_lay 7 = .ok (.putfield 19, 3) := by decide +kernel
theorem dX8_lay_10 : decode cX8_lay 10 = .ok (.iconst 0, 1) := by decide +kernel
theorem dX8_lay_11 : decode cX8_lay 11 = .ok (.istore_n 3, 1) := by decide +kernel
theorem dX8_lay_12 : decode cX8_lay 12 = .ok (.iload_n 3, 1) := by decide +kernel
theorem dX8_lay_13 : decode cX8_lay 13 = .ok (.bipush 30, 2) := by decide +kernel
theorem dX8_lay_15 : decode cX8_lay 15 = .ok (.if_icmp .ge 16, 3) := by decide +kernel
theorem dX8_lay_18 : decode cX8_lay 18 = .ok (.aload_n 0, 1) := by decide +kernel
theorem dX8_lay_19 : decode cX8_lay 19 = .ok (.getfield 15, 3) := by decide +kernel
theorem dX8_lay_22 : decode cX8_lay 22 = .ok (.iload_n 3, 1) := by decide +kernel
theorem dX8_lay_23 : decode cX8_lay 23 = .ok (.lconst 0, 1) := by decide +kernel
theorem dX8_lay_24 : decode cX8_lay 24 = .ok (.lastore, 1) := by decide +kernel
theorem dX8_lay_25 : decode cX8_lay 25 = .ok (.iinc 3 1, 3) := by decide +kernel
theorem dX8_lay_28 : decode cX8_lay 28 = .ok (.goto (-16), 3) := by decide +kernel
theorem dX8_lay_31 : decode cX8_lay 31 = .ok (.return_, 1) := by decide +kernel
theorem dX9_init_0 : decode cX9_init 0 = .ok (.aload_n 0, 1) := by decide +kernel
theorem dX9_init_1 : decode cX9_init 1 = .ok (.invokespecial 3, 3) := by decide +kernel
theorem dX9_init_4 : decode cX9_init 4 = .ok (.aload_n 0, 1) := by decide +kernel
theorem dX9_init_5 : decode cX9_init 5 = .ok (.bipush 61, 2) := by decide +kernel
theorem dX9_init_7 : decode cX9_init 7 = .ok (.newarray .int, 2) := by decide +kernel
theorem dX9_init_9 : decode cX9_init 9 = .ok (.putfield 9, 3) := by decide +kernel
theorem dX9_init_12 : decode cX9_init 12 = .ok (.aload_n 0, 1) := by decide +kernel
theorem dX9_init_13 : decode cX9_init 13 = .ok (.bipush 61, 2) := by decide +kernel
theorem dX9_init_15 : decode cX9_init 15 = .ok (.newarray .int, 2) := by decide +kernel
theorem dX9_init_17 : decode cX9_init 17 = .ok (.putfield 15, 3) := by decide +kernel
theorem dX9_init_20 : decode cX9_init 20 = .ok (.aload_n 0, 1) := by decide +kernel
theorem dX9_init_21 : decode cX9_init 21 = .ok (.bipush 61, 2) := by decide +kernel
theorem dX9_init_23 : decode cX9_init 23 = .ok (.newarray .int, 2) := by decide +kernel
theorem dX9_init_25 : decode cX9_init 25 = .ok (.putfield 18, 3) := by decide +kernel
theorem dX9_init_28 : decode cX9_init 28 = .ok (.aload_n 0, 1) := by decide +kernel
theorem dX9_init_29 : decode cX9_init 29 = .ok (.bipush 6, 2) := by decide +kernel
theorem dX9_init_31 : decode cX9_init 31 = .ok (.newarray .long, 2) := by decide +kernel
theorem dX9_init_33 : decode cX9_init 33 = .ok (.putfield 21, 3) := by decide +kernel
theorem dX9_init_36 : decode cX9_init 36 = .ok (.aload_n 0, 1) := by decide +kernel
theorem dX9_init_37 : decode cX9_init 37 = .ok (.bipush 6, 2) := by decide +kernel
theorem dX9_init_39 : decode cX9_init 39 = .ok (.newarray .long, 2) := by decide +kernel
theorem dX9_init_41 : decode cX9_init 41 = .ok (.putfield 25, 3) := by decide +kernel
theorem dX9_init_44 : decode cX9_init 44 = .ok (.return_, 1) := by decide +kernel
theorem dX9_look_0 : decode cX9_look 0 = .ok (.aload_n 1, 1) := by decide +kernel
theorem dX9_look_1 : decode cX9_look 1 = .ok (.getfield 28, 3) := by decide +kernel
theorem dX9_look_4 : decode cX9_look 4 = .ok (.getfield 34, 3) := by decide +kernel
theorem dX9_look_7 : decode cX9_look 7 = .ok (.getfield 40, 3) := by decide +kernel
theorem dX9_look_10 : decode cX9_look 10 = .ok (.istore_n 3, 1) := by decide +kernel
theorem dX9_look_11 : decode cX9_look 11 = .ok (.aload_n 0, 1) := by decide +kernel
theorem dX9_look_12 : decode cX9_look 12 = .ok (.iconst 1, 1) := by decide +kernel
theorem dX9_look_13 : decode cX9_look 13 = .ok (.iload_n 3, 1) := by decide +kernel
theorem dX9_look_14 : decode cX9_look 14 = .ok (.ishl, 1) := by decide +kernel
theorem dX9_look_15 : decode cX9_look 15 = .ok (.iconst 1, 1) := by decide +kernel
theorem dX9_look_16 : decode cX9_look 16 = .ok (.isub, 1) := by decide +kernel
theorem dX9_look_17 : decode cX9_look 17 = .ok (.putfield 46, 3) := by decide +kernel
theorem dX9_look_20 : decode cX9_look 20 = .ok (.iconst 0, 1) := by decide +kernel
theorem dX9_look_21 : decode cX9_look 21 = .ok (.istore 4, 2) := by decide +kernel
theorem dX9_look_23 : decode cX9_look 23 = .ok (.iload 4, 2) := by decide +kernel
theorem dX9_look_25 : decode cX9_look 25 = .ok (.bipush 60, 2) := by decide +kernel
theorem dX9_look_27 : decode cX9_look 27 = .ok (.if_icmp .gt 17, 3) := by decide +kernel
theorem dX9_look_30 : decode cX9_look 30 = .ok (.aload_n 0, 1) := by decide +kernel
theorem dX9_look_31 : decode cX9_look 31 = .ok (.getfield 9, 3) := by decide +kernel
theorem dX9_look_34 : decode cX9_look 34 = .ok (.iload 4, 2) := by decide +kernel
theorem dX9_look_36 : decode cX9_look 36 = .ok (.iconst 0, 1) := by decide +kernel
theorem dX9_look_37 : decode cX9_look 37 = .ok (.iastore, 1) := by decide +kernel
theorem dX9_look_38 : decode cX9_look 38 = .ok (.iinc 4 1, 3) := by decide +kernel
theorem dX9_look_41 : decode cX9_look 41 = .ok (.goto (-18), 3) := by decide +kernel
theorem dX9_look_44 : decode cX9_look 44 = .ok (.iconst 0, 1) := by decide +kernel
theorem dX9_look_45 : decode cX9_look 45 = .ok (.istore 4, 2) := by decide +kernel
theorem dX9_look_47 : decode cX9_look 47 = .ok (.iload 4, 2) := by decide +kernel
theorem dX9_look_49 : decode cX9_look 49 = .ok (.aload_n 1, 1) := by decide +kernel
theorem dX9_look_50 : decode cX9_look 50 = .ok (.getfield 49, 3) := by decide +kernel
theorem dX9_look_53 : decode cX9_look 53 = .ok (.if_icmp .ge 70, 3) := by decide +kernel
theorem dX9_look_123 : decode cX9_look 123 = .ok (.aload_n 0, 1) := by decide +kernel
theorem dX9_look_124 : decode cX9_look 124 = .ok (.getfield 15, 3) := by decide +kernel
theorem dX9_look_127 : decode cX9_look 127 = .ok (.iconst 0, 1) := by decide +kernel
theorem dX9_look_128 : decode cX9_look 128 = .ok (.iconst 1, 1) := by decide +kernel
theorem dX9_look_129 : decode cX9_look 129 = .ok (.iload_n 2, 1) := by decide +kernel
theorem dX9_look_130 : decode cX9_look 130 = .ok (.ishl, 1) := by decide +kernel
theorem dX9_look_131 : decode cX9_look 131 = .ok (.iastore, 1) := by decide +kernel
theorem dX9_look_132 : decode cX9_look 132 = .ok (.iconst 1, 1) := by decide +kernel
theorem dX9_look_133 : decode cX9_look 133 = .ok (.istore 4, 2) := by decide +kernel
theorem dX9_look_135 : decode cX9_look 135 = .ok (.iload 4, 2) := by decide +kernel
theorem dX9_look_137 : decode cX9_look 137 = .ok (.bipush 60, 2) := by decide +kernel
theorem dX9_look_139 : decode cX9_look 139 = .ok (.if_icmp .gt 39, 3) := by decide +kernel
theorem dX9_look_142 : decode cX9_look 142 = .ok (.aload_n 0, 1) := by decide +kernel
theorem dX9_look_143 : decode cX9_look 143 = .ok (.getfield 15, 3) := by decide +kernel
theorem dX9_look_146 : decode cX9_look 146 = .ok (.iload 4, 2) := by decide +kernel
theorem dX9_look_148 : decode cX9_look 148 = .ok (.aload_n 0, 1) := by decide +kernel
theorem dX9_look_149 : decode cX9_look 149 = .ok (.aload_n 0, 1) := by decide +kernel
theorem dX9_look_150 : decode cX9_look 150 = .ok (.getfield 15, 3) := by decide +kernel
theorem dX9_look_153 : decode cX9_look 153 = .ok (.iload 4, 2) := by decide +kernel
theorem dX9_look_155 : decode cX9_look 155 = .ok (.iconst 1, 1) := by decide +kernel
theorem dX9_look_156 : decode cX9_look 156 = .ok (.isub, 1) := by decide +kernel
theorem dX9_look_157 : decode cX9_look 157 = .ok (.iaload, 1) := by decide +kernel
theorem dX9_look_158 : decode cX9_look 158 = .ok (.invokevirtual 59, 3) := by decide +kernel
theorem dX9_look_161 : decode cX9_look 161 = .ok (.aload_n 0, 1) := by decide +kernel
theorem dX9_look_162 : decode cX9_look 162 = .ok (.getfield 9, 3) := by decide +kernel
theorem dX9_look_165 : decode cX9_look 165 = .ok (.iload 4, 2) := by decide +kernel
theorem dX9_look_167 : decode cX9_look 167 = .ok (.iaload, 1) := by decide +kernel
theorem dX9_look_168 : decode cX9_look 168 = .ok (.iconst (-1), 1) := by decide +kernel
theorem dX9_look_169 : decode cX9_look 169 = .ok (.ixor, 1) := by decide +kernel
theorem dX9_look_170 : decode cX9_look 170 = .ok (.iand, 1) := by decide +kernel
theorem dX9_look_171 : decode cX9_look 171 = .ok (.iastore, 1) := by decide +kernel
theorem dX9_look_172 : decode cX9_look 172 = .ok (.iinc 4 1, 3) := by decide +kernel
theorem dX9_look_175 : decode cX9_look 175 = .ok (.goto (-40), 3) := by decide +kernel
theorem dX9_look_178 : decode cX9_look 178 = .ok (.return_, 1) := by decide +kernel
theorem dX9_near_0 : decode cX9_near 0 = .ok (.iload_n 1, 1) := by decide +kernel
theorem dX9_near_1 : decode cX9_near 1 = .ok (.iload_n 1, 1) := by decide +kernel
theorem dX9_near_2 : decode cX9_near 2 = .ok (.iconst 1, 1) := by decide +kernel
theorem dX9_near_3 : decode cX9_near 3 = .ok (.ishl, 1) := by decide +kernel
theorem dX9_near_4 : decode cX9_near 4 = .ok (.ior, 1) := by decide +kernel
theorem dX9_near_5 : decode cX9_near 5 = .ok (.iload_n 1, 1) := by decide +kernel
theorem dX9_near_6 : decode cX9_near 6 = .ok (.iconst 1, 1) := by decide +kernel
theorem dX9_near_7 : decode cX9_near 7 = .ok (.ishr, 1) := by decide +kernel
theorem dX9_near_8 : decode cX9_near 8 = .ok (.ior, 1) := by decide +kernel
theorem dX9_near_9 : decode cX9_near 9 = .ok (.aload_n 0, 1) := by decide +kernel
theorem dX9_near_10 : decode cX9_near 10 = .ok (.getfield 46, 3) := by decide +kernel
theorem dX9_near_13 : decode cX9_near 13 = .ok (.iand, 1) := by decide +kernel
theorem dX9_near_14 : decode cX9_near 14 = .ok (.ireturn, 1) := by decide +kernel
theorem dX9_soonest_0 : decode cX9_soonest 0 = .ok (.iconst 0, 1) := by decide +kernel
theorem dX9_soonest_1 : decode cX9_soonest 1 = .ok (.istore_n 2, 1) := by decide +kernel
theorem dX9_soonest_2 : decode cX9_soonest 2 = .ok (.iload_n 2, 1) := by decide +kernel
theorem dX9_soonest_3 : decode cX9_soonest 3 = .ok (.bipush 60, 2) := by decide +kernel
theorem dX9_soonest_5 : decode cX9_soonest 5 = .ok (.if_icmp .gt 24, 3) := by decide +kernel
theorem dX9_soonest_8 : decode cX9_soonest 8 = .ok (.aload_n 0, 1) := by decide +kernel
theorem dX9_soonest_9 : decode cX9_soonest 9 = .ok (.getfield 15, 3) := by decide +kernel
theorem dX9_soonest_12 : decode cX9_soonest 12 = .ok (.iload_n 2, 1) := by decide +kernel
theorem dX9_soonest_13 : decode cX9_soonest 13 = .ok (.iaload, 1) := by decide +kernel
theorem dX9_soonest_14 : decode cX9_soonest 14 = .ok (.iload_n 1, 1) := by decide +kernel
theorem dX9_soonest_15 : decode cX9_soonest 15 = .ok (.ishr, 1) := by decide +kernel
theorem dX9_soonest_16 : decode cX9_soonest 16 = .ok (.iconst 1, 1) := by decide +kernel
theorem dX9_soonest_17 : decode cX9_soonest 17 = .ok (.iand, 1) := by decide +kernel
theorem dX9_soonest_18 : decode cX9_soonest 18 = .ok (.ifCond .eq 5, 3) := by decide +kernel
theorem dX9_soonest_21 : decode cX9_soonest 21 = .ok (.iload_n 2, 1) := by decide +kernel
theorem dX9_soonest_22 : decode cX9_soonest 22 = .ok (.ireturn, 1) := by decide +kernel
theorem dX9_columnOnWay_0 : decode cX9_columnOnWay 0 = .ok (.iload 4, 2) := by decide +kernel
theorem dX9_columnOnWay_2 : decode cX9_columnOnWay 2 = .ok (.ifCond .lt 15, 3) := by decide +kernel
theorem dX9_columnOnWay_5 : decode cX9_columnOnWay 5 = .ok (.iload 4, 2) := by decide +kernel
theorem dX9_columnOnWay_7 : decode cX9_columnOnWay 7 = .ok (.iload_n 3, 1) := by decide +kernel
theorem dX9_columnOnWay_8 : decode cX9_columnOnWay 8 = .ok (.if_icmp .gt 9, 3) := by decide +kernel
theorem dX9_columnOnWay_11 : decode cX9_columnOnWay 11 = .ok (.iload_n 3, 1) := by decide +kernel
theorem dX9_columnOnWay_12 : decode cX9_columnOnWay 12 = .ok (.bipush 60, 2) := by decide +kernel
theorem dX9_columnOnWay_14 : decode cX9_columnOnWay 14 = .ok (.if_icmp .le 5, 3) := by decide +kernel
theorem dX9_columnOnWay_17 : decode cX9_columnOnWay 17 = .ok (.iconst (-1), 1) := by decide +kernel
theorem dX9_columnOnWay_18 : decode cX9_columnOnWay 18 = .ok (.ireturn, 1) := by decide +kernel
theorem dX9_columnOnWay_19 : decode cX9_columnOnWay 19 = .ok (.aload_n 0, 1) := by decide +kernel
theorem dX9_columnOnWay_20 : decode cX9_columnOnWay 20 = .ok (.getfield 18, 3) := by decide +kernel
theorem dX9_columnOnWay_23 : decode cX9_columnOnWay 23 = .ok (.iload_n 3, 1) := by decide +kernel
theorem dX9_columnOnWay_24 : decode cX9_columnOnWay 24 = .ok (.iconst 1, 1) := by decide +kernel
theorem dX9_columnOnWay_25 : decode cX9_columnOnWay 25 = .ok (.iload_n 2, 1) := by decide +kernel
theorem dX9_columnOnWay_26 : decode cX9_columnOnWay 26 = .ok (.ishl, 1) := by decide +kernel
theorem dX9_columnOnWay_27 : decode cX9_columnOnWay 27 = .ok (.iastore, 1) := by decide +kernel
theorem dX9_columnOnWay_28 : decode cX9_columnOnWay 28 = .ok (.iload_n 3, 1) := by decide +kernel
theorem dX9_columnOnWay_29 : decode cX9_columnOnWay 29 = .ok (.iconst 1, 1) := by decide +kernel
theorem dX9_columnOnWay_30 : decode cX9_columnOnWay 30 = .ok (.isub, 1) := by decide +kernel
theorem dX9_columnOnWay_31 : decode cX9_columnOnWay 31 = .ok (.istore 5, 2) := by decide +kernel
theorem dX9_columnOnWay_33 : decode cX9_columnOnWay 33 = .ok (.iload 5, 2) := by decide +kernel
theorem dX9_columnOnWay_35 : decode cX9_columnOnWay 35 = .ok (.ifCond .lt 39, 3) := by decide +kernel
theorem dX9_columnOnWay_74 : decode cX9_columnOnWay 74 = .ok (.iload_n 1, 1) := by decide +kernel
theorem dX9_columnOnWay_75 : decode cX9_columnOnWay 75 = .ok (.istore 5, 2) := by decide +kernel
theorem dX9_columnOnWay_77 : decode cX9_columnOnWay 77 = .ok (.iconst 1, 1) := by decide +kernel
theorem dX9_columnOnWay_78 : decode cX9_columnOnWay 78 = .ok (.istore 6, 2) := by decide +kernel
theorem dX9_columnOnWay_80 : decode cX9_columnOnWay 80 = .ok (.iload 6, 2) := by decide +kernel
theorem dX9_columnOnWay_82 : decode cX9_columnOnWay 82 = .ok (.iload 4, 2) := by decide +kernel
theorem dX9_columnOnWay_84 : decode cX9_columnOnWay 84 = .ok (.if_icmp .gt 30, 3) := by decide +kernel
theorem dX9_columnOnWay_114 : decode cX9_columnOnWay 114 = .ok (.iload 5, 2) := by decide +kernel
theorem dX9_columnOnWay_116 : decode cX9_columnOnWay 116 = .ok (.ireturn, 1) := by decide +kernel
theorem dX9_howMany_0 : decode cX9_howMany 0 = .ok (.iconst 0, 1) := by decide +kernel
theorem dX9_howMany_1 : decode cX9_howMany 1 = .ok (.istore 4, 2) := by decide +kernel
theorem dX9_howMany_3 : decode cX9_howMany 3 = .ok (.iload 4, 2) := by decide +kernel
theorem dX9_howMany_5 : decode cX9_howMany 5 = .ok (.bipush 6, 2) := by decide +kernel
theorem dX9_howMany_7 : decode cX9_howMany 7 = .ok (.if_icmp .ge 27, 3) := by decide +kernel
theorem dX9_howMany_10 : decode cX9_howMany 10 = .ok (.aload_n 0, 1) := by decide +kernel
theorem dX9_howMany_11 : decode cX9_howMany 11 = .ok (.getfield 21, 3) := by decide +kernel
theorem dX9_howMany_14 : decode cX9_howMany 14 = .ok (.iload 4, 2) := by decide +kernel
theorem dX9_howMany_16 : decode cX9_howMany 16 = .ok (.iload 4, 2) := by decide +kernel
theorem dX9_howMany_18 : decode cX9_howMany 18 = .ok (.iload_n 1, 1) := by decide +kernel
theorem dX9_howMany_19 : decode cX9_howMany 19 = .ok (.if_icmp .ne 7, 3) := by decide +kernel
theorem dX9_howMany_22 : decode cX9_howMany 22 = .ok (.lconst 1, 1) := by decide +kernel
theorem dX9_howMany_23 : decode cX9_howMany 23 = .ok (.goto 4, 3) := by decide +kernel
theorem dX9_howMany_26 : decode cX9_howMany 26 = .ok (.lconst 0, 1) := by decide +kernel
theorem dX9_howMany_27 : decode cX9_howMany 27 = .ok (.lastore, 1) := by decide +kernel
theorem dX9_howMany_28 : decode cX9_howMany 28 = .ok (.iinc 4 1, 3) := by decide +kernel
theorem dX9_howMany_31 : decode cX9_howMany 31 = .ok (.goto (-28), 3) := by decide +kernel
theorem dX9_howMany_34 : decode cX9_howMany 34 = .ok (.iconst 1, 1) := by decide +kernel
theorem dX9_howMany_35 : decode cX9_howMany 35 = .ok (.istore 4, 2) := by decide +kernel
theorem dX9_howMany_37 : decode cX9_howMany 37 = .ok (.iload 4, 2) := by decide +kernel
theorem dX9_howMany_39 : decode cX9_howMany 39 = .ok (.iload_n 3, 1) := by decide +kernel
theorem dX9_howMany_40 : decode cX9_howMany 40 = .ok (.if_icmp .gt 122, 3) := by decide +kernel
theorem dX9_howMany_43 : decode cX9_howMany 43 = .ok (.iload 4, 2) := by decide +kernel
theorem dX9_howMany_45 : decode cX9_howMany 45 = .ok (.bipush 60, 2) := by decide +kernel
theorem dX9_howMany_47 : decode cX9_howMany 47 = .ok (.if_icmp .gt 115, 3) := by decide +kernel
theorem dX9_howMany_50 : decode cX9_howMany 50 = .ok (.aload_n 0, 1) := by decide +kernel
theorem dX9_howMany_51 : decode cX9_howMany 51 = .ok (.getfield 21, 3) := by decide +kernel
theorem dX9_howMany_54 : decode cX9_howMany 54 = .ok (.iconst 0, 1) := by decide +kernel
theorem dX9_howMany_55 : decode cX9_howMany 55 = .ok (.aload_n 0, 1) := by decide +kernel
theorem dX9_howMany_56 : decode cX9_howMany 56 = .ok (.getfield 25, 3) := by decide +kernel
theorem dX9_howMany_59 : decode cX9_howMany 59 = .ok (.iconst 0, 1) := by decide +kernel
theorem dX9_howMany_60 : decode cX9_howMany 60 = .ok (.bipush 6, 2) := by decide +kernel
theorem dX9_howMany_62 : decode cX9_howMany 62 = .ok (.invokestatic 68, 3) := by decide +kernel
theorem dX9_howMany_65 : decode cX9_howMany 65 = .ok (.iconst 0, 1) := by decide +kernel
theorem dX9_howMany_66 : decode cX9_howMany 66 = .ok (.istore 5, 2) := by decide +kernel
theorem dX9_howMany_68 : decode cX9_howMany 68 = .ok (.iload 5, 2) := by decide +kernel
theorem dX9_howMany_70 : decode cX9_howMany 70 = .ok (.bipush 6, 2) := by decide +kernel
theorem dX9_howMany_72 : decode cX9_howMany 72 = .ok (.if_icmp .ge 84, 3) := by decide +kernel
theorem dX9_howMany_75 : decode cX9_howMany 75 = .ok (.aload_n 0, 1) := by decide +kernel
theorem dX9_howMany_76 : decode cX9_howMany 76 = .ok (.getfield 46, 3) := by decide +kernel
theorem dX9_howMany_79 : decode cX9_howMany 79 = .ok (.iload 5, 2) := by decide +kernel
theorem dX9_howMany_81 : decode cX9_howMany 81 = .ok (.ishr, 1) := by decide +kernel
theorem dX9_howMany_82 : decode cX9_howMany 82 = .ok (.iconst 1, 1) := by decide +kernel
theorem dX9_howMany_83 : decode cX9_howMany 83 = .ok (.iand, 1) := by decide +kernel
theorem dX9_howMany_84 : decode cX9_howMany 84 = .ok (.ifCond .eq 22, 3) := by decide +kernel
theorem dX9_howMany_87 : decode cX9_howMany 87 = .ok (.aload_n 0, 1) := by decide +kernel
theorem dX9_howMany_88 : decode cX9_howMany 88 = .ok (.getfield 9, 3) := by decide +kernel
theorem dX9_howMany_91 : decode cX9_howMany 91 = .ok (.iload 4, 2) := by decide +kernel
theorem dX9_howMany_93 : decode cX9_howMany 93 = .ok (.iaload, 1) := by decide +kernel
theorem dX9_howMany_94 : decode cX9_howMany 94 = .ok (.iload 5, 2) := by decide +kernel
theorem dX9_howMany_96 : decode cX9_howMany 96 = .ok (.ishr, 1) := by decide +kernel
theorem dX9_howMany_97 : decode cX9_howMany 97 = .ok (.iconst 1, 1) := by decide +kernel
theorem dX9_howMany_98 : decode cX9_howMany 98 = .ok (.iand, 1) := by decide +kernel
theorem dX9_howMany_99 : decode cX9_howMany 99 = .ok (.ifCond .ne 7, 3) := by decide +kernel
theorem dX9_howMany_102 : decode cX9_howMany 102 = .ok (.iconst 1, 1) := by decide +kernel
theorem dX9_howMany_103 : decode cX9_howMany 103 = .ok (.goto 4, 3) := by decide +kernel
theorem dX9_howMany_106 : decode cX9_howMany 106 = .ok (.iconst 0, 1) := by decide +kernel
theorem dX9_howMany_107 : decode cX9_howMany 107 = .ok (.istore 6, 2) := by decide +kernel
theorem dX9_howMany_109 : decode cX9_howMany 109 = .ok (.aload_n 0, 1) := by decide +kernel
theorem dX9_howMany_110 : decode cX9_howMany 110 = .ok (.getfield 21, 3) := by decide +kernel
theorem dX9_howMany_113 : decode cX9_howMany 113 = .ok (.iload 5, 2) := by decide +kernel
theorem dX9_howMany_115 : decode cX9_howMany 115 = .ok (.iload 6, 2) := by decide +kernel
theorem dX9_howMany_117 : decode cX9_howMany 117 = .ok (.ifCond .eq 31, 3) := by decide +kernel
theorem dX9_howMany_120 : decode cX9_howMany 120 = .ok (.aload_n 0, 1) := by decide +kernel
theorem dX9_howMany_121 : decode cX9_howMany 121 = .ok (.getfield 25, 3) := by decide +kernel
theorem dX9_howMany_124 : decode cX9_howMany 124 = .ok (.iload 5, 2) := by decide +kernel
theorem dX9_howMany_126 : decode cX9_howMany 126 = .ok (.laload, 1) := by decide +kernel
theorem dX9_howMany_127 : decode cX9_howMany 127 = .ok (.aload_n 0, 1) := by decide +kernel
theorem dX9_howMany_128 : decode cX9_howMany 128 = .ok (.iload 5, 2) := by decide +kernel
theorem dX9_howMany_130 : decode cX9_howMany 130 = .ok (.iconst 1, 1) := by decide +kernel
theorem dX9_howMany_131 : decode cX9_howMany 131 = .ok (.isub, 1) := by decide +kernel
theorem dX9_howMany_132 : decode cX9_howMany 132 = .ok (.invokevirtual 74, 3) := by decide +kernel
theorem dX9_howMany_135 : decode cX9_howMany 135 = .ok (.ladd, 1) := by decide +kernel
theorem dX9_howMany_136 : decode cX9_howMany 136 = .ok (.aload_n 0, 1) := by decide +kernel
theorem dX9_howMany_137 : decode cX9_howMany 137 = .ok (.iload 5, 2) := by decide +kernel
theorem dX9_howMany_139 : decode cX9_howMany 139 = .ok (.iconst 1, 1) := by decide +kernel
theorem dX9_howMany_140 : decode cX9_howMany 140 = .ok (.iadd, 1) := by decide +kernel
theorem dX9_howMany_141 : decode cX9_howMany 141 = .ok (.invokevirtual 74, 3) := by decide +kernel
theorem dX9_howMany_144 : decode cX9_howMany 144 = .ok (.ladd, 1) := by decide +kernel
theorem dX9_howMany_145 : decode cX9_howMany 145 = .ok (.goto 4, 3) := by decide +kernel
theorem dX9_howMany_148 : decode cX9_howMany 148 = .ok (.lconst 0, 1) := by decide +kernel
theorem dX9_howMany_149 : decode cX9_howMany 149 = .ok (.lastore, 1) := by decide +kernel
theorem dX9_howMany_150 : decode cX9_howMany 150 = .ok (.iinc 5 1, 3) := by decide +kernel
theorem dX9_howMany_153 : decode cX9_howMany 153 = .ok (.goto (-85), 3) := by decide +kernel
theorem dX9_howMany_156 : decode cX9_howMany 156 = .ok (.iinc 4 1, 3) := by decide +kernel
theorem dX9_howMany_159 : decode cX9_howMany 159 = .ok (.goto (-122), 3) := by decide +kernel
theorem dX9_howMany_162 : decode cX9_howMany 162 = .ok (.iload_n 2, 1) := by decide +kernel
theorem dX9_howMany_163 : decode cX9_howMany 163 = .ok (.ifCond .lt 18, 3) := by decide +kernel
theorem dX9_howMany_166 : decode cX9_howMany 166 = .ok (.iload_n 2, 1) := by decide +kernel
theorem dX9_howMany_167 : decode cX9_howMany 167 = .ok (.bipush 6, 2) := by decide +kernel
theorem dX9_howMany_169 : decode cX9_howMany 169 = .ok (.if_icmp .ge 12, 3) := by decide +kernel
theorem dX9_howMany_172 : decode cX9_howMany 172 = .ok (.aload_n 0, 1) := by decide +kernel
theorem dX9_howMany_173 : decode cX9_howMany 173 = .ok (.getfield 21, 3) := by decide +kernel
theorem dX9_howMany_176 : decode cX9_howMany 176 = .ok (.iload_n 2, 1) := by decide +kernel
theorem dX9_howMany_177 : decode cX9_howMany 177 = .ok (.laload, 1) := by decide +kernel
theorem dX9_howMany_178 : decode cX9_howMany 178 = .ok (.goto 4, 3) := by decide +kernel
theorem dX9_howMany_182 : decode cX9_howMany 182 = .ok (.lreturn, 1) := by decide +kernel
theorem dX9_beside_0 : decode cX9_beside 0 = .ok (.iload_n 1, 1) := by decide +kernel
theorem dX9_beside_1 : decode cX9_beside 1 = .ok (.ifCond .lt 18, 3) := by decide +kernel
theorem dX9_beside_4 : decode cX9_beside 4 = .ok (.iload_n 1, 1) := by decide +kernel
theorem dX9_beside_5 : decode cX9_beside 5 = .ok (.bipush 6, 2) := by decide +kernel
theorem dX9_beside_7 : decode cX9_beside 7 = .ok (.if_icmp .ge 12, 3) := by decide +kernel
theorem dX9_beside_10 : decode cX9_beside 10 = .ok (.aload_n 0, 1) := by decide +kernel
theorem dX9_beside_11 : decode cX9_beside 11 = .ok (.getfield 25, 3) := by decide +kernel
theorem dX9_beside_14 : decode cX9_beside 14 = .ok (.iload_n 1, 1) := by decide +kernel
theorem dX9_beside_15 : decode cX9_beside 15 = .ok (.laload, 1) := by decide +kernel
theorem dX9_beside_16 : decode cX9_beside 16 = .ok (.goto 4, 3) := by decide +kernel
theorem dX9_beside_19 : decode cX9_beside 19 = .ok (.lconst 0, 1) := by decide +kernel
theorem dX9_beside_20 : decode cX9_beside 20 = .ok (.lreturn, 1) := by decide +kernel
theorem dX10_init_0 : decode cX10_init 0 = .ok (.aload_n 0, 1) := by decide +kernel
theorem dX10_init_1 : decode cX10_init 1 = .ok (.invokespecial 3, 3) := by decide +kernel
theorem dX10_init_4 : decode cX10_init 4 = .ok (.aload_n 0, 1) := by decide +kernel
theorem dX10_init_5 : decode cX10_init 5 = .ok (.sipush 900, 3) := by decide +kernel
theorem dX10_init_8 : decode cX10_init 8 = .ok (.newarray .byte, 2) := by decide +kernel
theorem dX10_init_10 : decode cX10_init 10 = .ok (.putfield 11, 3) := by decide +kernel
theorem dX10_init_13 : decode cX10_init 13 = .ok (.aload_n 0, 1) := by decide +kernel
theorem dX10_init_14 : decode cX10_init 14 = .ok (.iconst (-1), 1) := by decide +kernel
theorem dX10_init_15 : decode cX10_init 15 = .ok (.putfield 15, 3) := by decide +kernel
theorem dX10_init_18 : decode cX10_init 18 = .ok (.aload_n 0, 1) := by decide +kernel
theorem dX10_init_19 : decode cX10_init 19 = .ok (.new 19, 3) := by decide +kernel
theorem dX10_init_22 : decode cX10_init 22 = .ok (.dup, 1) := by decide +kernel
theorem dX10_init_23 : decode cX10_init 23 = .ok (.invokespecial 21, 3) := by decide +kernel
theorem dX10_init_26 : decode cX10_init 26 = .ok (.putfield 22, 3) := by decide +kernel
theorem dX10_init_29 : decode cX10_init 29 = .ok (.aload_n 0, 1) := by decide +kernel
theorem dX10_init_30 : decode cX10_init 30 = .ok (.bipush 61, 2) := by decide +kernel
theorem dX10_init_32 : decode cX10_init 32 = .ok (.newarray .int, 2) := by decide +kernel
theorem dX10_init_34 : decode cX10_init 34 = .ok (.putfield 26, 3) := by decide +kernel
theorem dX10_init_37 : decode cX10_init 37 = .ok (.aload_n 0, 1) := by decide +kernel
theorem dX10_init_38 : decode cX10_init 38 = .ok (.iconst 4, 1) := by decide +kernel
theorem dX10_init_39 : decode cX10_init 39 = .ok (.anewarray 30, 3) := by decide +kernel
theorem dX10_init_42 : decode cX10_init 42 = .ok (.putfield 32, 3) := by decide +kernel
theorem dX10_init_45 : decode cX10_init 45 = .ok (.aload_n 0, 1) := by decide +kernel
theorem dX10_init_46 : decode cX10_init 46 = .ok (.iconst 3, 1) := by decide +kernel
theorem dX10_init_47 : decode cX10_init 47 = .ok (.anewarray 36, 3) := by decide +kernel
theorem dX10_init_50 : decode cX10_init 50 = .ok (.putfield 38, 3) := by decide +kernel
theorem dX10_init_53 : decode cX10_init 53 = .ok (.new 42, 3) := by decide +kernel
theorem dX10_init_56 : decode cX10_init 56 = .ok (.dup, 1) := by decide +kernel
theorem dX10_init_57 : decode cX10_init 57 = .ok (.invokespecial 44, 3) := by decide +kernel
