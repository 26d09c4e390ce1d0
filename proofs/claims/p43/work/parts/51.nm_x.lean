theorem dX11_begins_0 : decode cX11_begins 0 = .ok (.aload_n 0, 1) := by decide +kernel
theorem dX11_begins_1 : decode cX11_begins 1 = .ok (.getfield 13, 3) := by decide +kernel
theorem dX11_begins_10 : decode cX11_begins 10 = .ok (.aload_n 0, 1) := by decide +kernel
theorem dX11_begins_11 : decode cX11_begins 11 = .ok (.iconst 4, 1) := by decide +kernel
theorem dX11_begins_12 : decode cX11_begins 12 = .ok (.invokevirtual 127, 3) := by decide +kernel
theorem dX11_begins_15 : decode cX11_begins 15 = .ok (.aload_n 0, 1) := by decide +kernel
theorem dX11_begins_16 : decode cX11_begins 16 = .ok (.getfield 105, 3) := by decide +kernel
theorem dX11_begins_19 : decode cX11_begins 19 = .ok (.ifCond .ne 7, 3) := by decide +kernel
theorem dX11_begins_22 : decode cX11_begins 22 = .ok (.aload_n 0, 1) := by decide +kernel
theorem dX11_begins_23 : decode cX11_begins 23 = .ok (.invokevirtual 124, 3) := by decide +kernel
theorem dX11_begins_26 : decode cX11_begins 26 = .ok (.aload_n 0, 1) := by decide +kernel
theorem dX11_begins_27 : decode cX11_begins 27 = .ok (.getfield 105, 3) := by decide +kernel
theorem dX11_begins_30 : decode cX11_begins 30 = .ok (.ifCond .ne 7, 3) := by decide +kernel
theorem dX11_begins_33 : decode cX11_begins 33 = .ok (.iconst 1, 1) := by decide +kernel
theorem dX11_begins_34 : decode cX11_begins 34 = .ok (.goto 4, 3) := by decide +kernel
theorem dX11_begins_37 : decode cX11_begins 37 = .ok (.iconst 0, 1) := by decide +kernel
theorem dX11_begins_38 : decode cX11_begins 38 = .ok (.ireturn, 1) := by decide +kernel
theorem dX11_begins_4 : decode cX11_begins 4 = .ok (.iload_n 1, 1) := by decide +kernel
theorem dX11_begins_5 : decode cX11_begins 5 = .ok (.iaload, 1) := by decide +kernel
theorem dX11_begins_6 : decode cX11_begins 6 = .ok (.iload_n 2, 1) := by decide +kernel
theorem dX11_begins_7 : decode cX11_begins 7 = .ok (.if_icmp .ne 8, 3) := by decide +kernel
theorem dX11_freeWord_0 : decode cX11_freeWord 0 = .ok (.aload_n 0, 1) := by decide +kernel
theorem dX11_freeWord_1 : decode cX11_freeWord 1 = .ok (.ldc 195, 2) := by decide +kernel
theorem dX11_freeWord_10 : decode cX11_freeWord 10 = .ok (.ireturn, 1) := by decide +kernel
theorem dX11_freeWord_11 : decode cX11_freeWord 11 = .ok (.aload_n 0, 1) := by decide +kernel
theorem dX11_freeWord_12 : decode cX11_freeWord 12 = .ok (.ldc 197, 2) := by decide +kernel
theorem dX11_freeWord_14 : decode cX11_freeWord 14 = .ok (.invokevirtual 135, 3) := by decide +kernel
theorem dX11_freeWord_17 : decode cX11_freeWord 17 = .ok (.ifCond .eq 5, 3) := by decide +kernel
theorem dX11_freeWord_20 : decode cX11_freeWord 20 = .ok (.iconst 1, 1) := by decide +kernel
theorem dX11_freeWord_21 : decode cX11_freeWord 21 = .ok (.ireturn, 1) := by decide +kernel
theorem dX11_freeWord_22 : decode cX11_freeWord 22 = .ok (.aload_n 0, 1) := by decide +kernel
theorem dX11_freeWord_23 : decode cX11_freeWord 23 = .ok (.ldc 199, 2) := by decide +kernel
theorem dX11_freeWord_25 : decode cX11_freeWord 25 = .ok (.invokevirtual 135, 3) := by decide +kernel
theorem dX11_freeWord_28 : decode cX11_freeWord 28 = .ok (.ifCond .eq 5, 3) := by decide +kernel
theorem dX11_freeWord_3 : decode cX11_freeWord 3 = .ok (.invokevirtual 135, 3) := by decide +kernel
theorem dX11_freeWord_31 : decode cX11_freeWord 31 = .ok (.iconst 2, 1) := by decide +kernel
theorem dX11_freeWord_32 : decode cX11_freeWord 32 = .ok (.ireturn, 1) := by decide +kernel
theorem dX11_freeWord_33 : decode cX11_freeWord 33 = .ok (.aload_n 0, 1) := by decide +kernel
theorem dX11_freeWord_34 : decode cX11_freeWord 34 = .ok (.ldc 201, 2) := by decide +kernel
theorem dX11_freeWord_36 : decode cX11_freeWord 36 = .ok (.invokevirtual 135, 3) := by decide +kernel
theorem dX11_freeWord_39 : decode cX11_freeWord 39 = .ok (.ifCond .eq 5, 3) := by decide +kernel
theorem dX11_freeWord_42 : decode cX11_freeWord 42 = .ok (.iconst 3, 1) := by decide +kernel
theorem dX11_freeWord_43 : decode cX11_freeWord 43 = .ok (.ireturn, 1) := by decide +kernel
theorem dX11_freeWord_44 : decode cX11_freeWord 44 = .ok (.aload_n 0, 1) := by decide +kernel
theorem dX11_freeWord_45 : decode cX11_freeWord 45 = .ok (.ldc 191, 2) := by decide +kernel
theorem dX11_freeWord_47 : decode cX11_freeWord 47 = .ok (.invokevirtual 135, 3) := by decide +kernel
theorem dX11_freeWord_50 : decode cX11_freeWord 50 = .ok (.ifCond .eq 7, 3) := by decide +kernel
theorem dX11_freeWord_53 : decode cX11_freeWord 53 = .ok (.iconst 4, 1) := by decide +kernel
theorem dX11_freeWord_54 : decode cX11_freeWord 54 = .ok (.goto 4, 3) := by decide +kernel
theorem dX11_freeWord_57 : decode cX11_freeWord 57 = .ok (.iconst (-1), 1) := by decide +kernel
theorem dX11_freeWord_58 : decode cX11_freeWord 58 = .ok (.ireturn, 1) := by decide +kernel
theorem dX11_freeWord_6 : decode cX11_freeWord 6 = .ok (.ifCond .eq 5, 3) := by decide +kernel
theorem dX11_freeWord_9 : decode cX11_freeWord 9 = .ok (.iconst 0, 1) := by decide +kernel
theorem dX11_goesIn_0 : decode cX11_goesIn 0 = .ok (.aload_n 0, 1) := by decide +kernel
theorem dX11_goesIn_1 : decode cX11_goesIn 1 = .ok (.getfield 144, 3) := by decide +kernel
theorem dX11_goesIn_10 : decode cX11_goesIn 10 = .ok (.iconst 4, 1) := by decide +kernel
theorem dX11_goesIn_11 : decode cX11_goesIn 11 = .ok (.invokevirtual 127, 3) := by decide +kernel
theorem dX11_goesIn_14 : decode cX11_goesIn 14 = .ok (.aload_n 0, 1) := by decide +kernel
theorem dX11_goesIn_15 : decode cX11_goesIn 15 = .ok (.dup, 1) := by decide +kernel
theorem dX11_goesIn_16 : decode cX11_goesIn 16 = .ok (.getfield 144, 3) := by decide +kernel
theorem dX11_goesIn_19 : decode cX11_goesIn 19 = .ok (.iconst 1, 1) := by decide +kernel
theorem dX11_goesIn_20 : decode cX11_goesIn 20 = .ok (.iadd, 1) := by decide +kernel
theorem dX11_goesIn_21 : decode cX11_goesIn 21 = .ok (.putfield 144, 3) := by decide +kernel
theorem dX11_goesIn_24 : decode cX11_goesIn 24 = .ok (.aload_n 0, 1) := by decide +kernel
theorem dX11_goesIn_25 : decode cX11_goesIn 25 = .ok (.getfield 105, 3) := by decide +kernel
theorem dX11_goesIn_28 : decode cX11_goesIn 28 = .ok (.ifCond .ne 7, 3) := by decide +kernel
theorem dX11_goesIn_31 : decode cX11_goesIn 31 = .ok (.aload_n 0, 1) := by decide +kernel
theorem dX11_goesIn_32 : decode cX11_goesIn 32 = .ok (.invokevirtual 124, 3) := by decide +kernel
theorem dX11_goesIn_35 : decode cX11_goesIn 35 = .ok (.return_, 1) := by decide +kernel
theorem dX11_goesIn_4 : decode cX11_goesIn 4 = .ok (.bipush 6, 2) := by decide +kernel
theorem dX11_goesIn_6 : decode cX11_goesIn 6 = .ok (.if_icmp .ne 8, 3) := by decide +kernel
theorem dX11_goesIn_9 : decode cX11_goesIn 9 = .ok (.aload_n 0, 1) := by decide +kernel
theorem dX11_hangWord_0 : decode cX11_hangWord 0 = .ok (.aload_n 0, 1) := by decide +kernel
theorem dX11_hangWord_1 : decode cX11_hangWord 1 = .ok (.ldc 183, 2) := by decide +kernel
theorem dX11_hangWord_10 : decode cX11_hangWord 10 = .ok (.ireturn, 1) := by decide +kernel
theorem dX11_hangWord_11 : decode cX11_hangWord 11 = .ok (.aload_n 0, 1) := by decide +kernel
theorem dX11_hangWord_12 : decode cX11_hangWord 12 = .ok (.ldc 185, 2) := by decide +kernel
theorem dX11_hangWord_14 : decode cX11_hangWord 14 = .ok (.invokevirtual 135, 3) := by decide +kernel
theorem dX11_hangWord_17 : decode cX11_hangWord 17 = .ok (.ifCond .eq 5, 3) := by decide +kernel
theorem dX11_hangWord_20 : decode cX11_hangWord 20 = .ok (.iconst 1, 1) := by decide +kernel
theorem dX11_hangWord_21 : decode cX11_hangWord 21 = .ok (.ireturn, 1) := by decide +kernel
theorem dX11_hangWord_22 : decode cX11_hangWord 22 = .ok (.aload_n 0, 1) := by decide +kernel
theorem dX11_hangWord_23 : decode cX11_hangWord 23 = .ok (.ldc 187, 2) := by decide +kernel
theorem dX11_hangWord_25 : decode cX11_hangWord 25 = .ok (.invokevirtual 135, 3) := by decide +kernel
theorem dX11_hangWord_28 : decode cX11_hangWord 28 = .ok (.ifCond .eq 5, 3) := by decide +kernel
theorem dX11_hangWord_3 : decode cX11_hangWord 3 = .ok (.invokevirtual 135, 3) := by decide +kernel
theorem dX11_hangWord_31 : decode cX11_hangWord 31 = .ok (.iconst 2, 1) := by decide +kernel
theorem dX11_hangWord_32 : decode cX11_hangWord 32 = .ok (.ireturn, 1) := by decide +kernel
theorem dX11_hangWord_33 : decode cX11_hangWord 33 = .ok (.aload_n 0, 1) := by decide +kernel
theorem dX11_hangWord_34 : decode cX11_hangWord 34 = .ok (.ldc 189, 2) := by decide +kernel
theorem dX11_hangWord_36 : decode cX11_hangWord 36 = .ok (.invokevirtual 135, 3) := by decide +kernel
theorem dX11_hangWord_39 : decode cX11_hangWord 39 = .ok (.ifCond .eq 5, 3) := by decide +kernel
theorem dX11_hangWord_42 : decode cX11_hangWord 42 = .ok (.iconst 3, 1) := by decide +kernel
theorem dX11_hangWord_43 : decode cX11_hangWord 43 = .ok (.ireturn, 1) := by decide +kernel
theorem dX11_hangWord_44 : decode cX11_hangWord 44 = .ok (.aload_n 0, 1) := by decide +kernel
theorem dX11_hangWord_45 : decode cX11_hangWord 45 = .ok (.ldc 191, 2) := by decide +kernel
theorem dX11_hangWord_47 : decode cX11_hangWord 47 = .ok (.invokevirtual 135, 3) := by decide +kernel
theorem dX11_hangWord_50 : decode cX11_hangWord 50 = .ok (.ifCond .eq 5, 3) := by decide +kernel
theorem dX11_hangWord_53 : decode cX11_hangWord 53 = .ok (.iconst 4, 1) := by decide +kernel
theorem dX11_hangWord_54 : decode cX11_hangWord 54 = .ok (.ireturn, 1) := by decide +kernel
theorem dX11_hangWord_55 : decode cX11_hangWord 55 = .ok (.aload_n 0, 1) := by decide +kernel
theorem dX11_hangWord_56 : decode cX11_hangWord 56 = .ok (.ldc 193, 2) := by decide +kernel
theorem dX11_hangWord_58 : decode cX11_hangWord 58 = .ok (.invokevirtual 135, 3) := by decide +kernel
theorem dX11_hangWord_6 : decode cX11_hangWord 6 = .ok (.ifCond .eq 5, 3) := by decide +kernel
theorem dX11_hangWord_61 : decode cX11_hangWord 61 = .ok (.ifCond .eq 7, 3) := by decide +kernel
theorem dX11_hangWord_64 : decode cX11_hangWord 64 = .ok (.iconst 5, 1) := by decide +kernel
theorem dX11_hangWord_65 : decode cX11_hangWord 65 = .ok (.goto 4, 3) := by decide +kernel
theorem dX11_hangWord_68 : decode cX11_hangWord 68 = .ok (.iconst (-1), 1) := by decide +kernel
theorem dX11_hangWord_69 : decode cX11_hangWord 69 = .ok (.ireturn, 1) := by decide +kernel
theorem dX11_hangWord_9 : decode cX11_hangWord 9 = .ok (.iconst 0, 1) := by decide +kernel
theorem dX11_isWord_0 : decode cX11_isWord 0 = .ok (.aload_n 0, 1) := by decide +kernel
theorem dX11_isWord_1 : decode cX11_isWord 1 = .ok (.getfield 105, 3) := by decide +kernel
theorem dX11_isWord_11 : decode cX11_isWord 11 = .ok (.iconst 1, 1) := by decide +kernel
theorem dX11_isWord_12 : decode cX11_isWord 12 = .ok (.if_icmp .ne 23, 3) := by decide +kernel
theorem dX11_isWord_15 : decode cX11_isWord 15 = .ok (.aload_n 0, 1) := by decide +kernel
theorem dX11_isWord_16 : decode cX11_isWord 16 = .ok (.getfield 79, 3) := by decide +kernel
theorem dX11_isWord_19 : decode cX11_isWord 19 = .ok (.aload_n 0, 1) := by decide +kernel
theorem dX11_isWord_20 : decode cX11_isWord 20 = .ok (.getfield 82, 3) := by decide +kernel
theorem dX11_isWord_23 : decode cX11_isWord 23 = .ok (.isub, 1) := by decide +kernel
theorem dX11_isWord_24 : decode cX11_isWord 24 = .ok (.aload_n 1, 1) := by decide +kernel
theorem dX11_isWord_25 : decode cX11_isWord 25 = .ok (.invokevirtual 111, 3) := by decide +kernel
theorem dX11_isWord_28 : decode cX11_isWord 28 = .ok (.if_icmp .ne 7, 3) := by decide +kernel
theorem dX11_isWord_31 : decode cX11_isWord 31 = .ok (.iconst 1, 1) := by decide +kernel
theorem dX11_isWord_32 : decode cX11_isWord 32 = .ok (.goto 4, 3) := by decide +kernel
theorem dX11_isWord_35 : decode cX11_isWord 35 = .ok (.iconst 0, 1) := by decide +kernel
theorem dX11_isWord_36 : decode cX11_isWord 36 = .ok (.istore_n 2, 1) := by decide +kernel
theorem dX11_isWord_37 : decode cX11_isWord 37 = .ok (.iconst 0, 1) := by decide +kernel
theorem dX11_isWord_38 : decode cX11_isWord 38 = .ok (.istore_n 3, 1) := by decide +kernel
theorem dX11_isWord_39 : decode cX11_isWord 39 = .ok (.iload_n 2, 1) := by decide +kernel
theorem dX11_isWord_4 : decode cX11_isWord 4 = .ok (.ifCond .ne 31, 3) := by decide +kernel
theorem dX11_isWord_40 : decode cX11_isWord 40 = .ok (.ifCond .eq 42, 3) := by decide +kernel
theorem dX11_isWord_43 : decode cX11_isWord 43 = .ok (.iload_n 3, 1) := by decide +kernel
theorem dX11_isWord_44 : decode cX11_isWord 44 = .ok (.aload_n 1, 1) := by decide +kernel
theorem dX11_isWord_45 : decode cX11_isWord 45 = .ok (.invokevirtual 111, 3) := by decide +kernel
theorem dX11_isWord_48 : decode cX11_isWord 48 = .ok (.if_icmp .ge 34, 3) := by decide +kernel
theorem dX11_isWord_51 : decode cX11_isWord 51 = .ok (.aload_n 0, 1) := by decide +kernel
theorem dX11_isWord_52 : decode cX11_isWord 52 = .ok (.getfield 23, 3) := by decide +kernel
theorem dX11_isWord_55 : decode cX11_isWord 55 = .ok (.aload_n 0, 1) := by decide +kernel
theorem dX11_isWord_56 : decode cX11_isWord 56 = .ok (.getfield 82, 3) := by decide +kernel
theorem dX11_isWord_59 : decode cX11_isWord 59 = .ok (.iload_n 3, 1) := by decide +kernel
theorem dX11_isWord_60 : decode cX11_isWord 60 = .ok (.iadd, 1) := by decide +kernel
theorem dX11_isWord_61 : decode cX11_isWord 61 = .ok (.iaload, 1) := by decide +kernel
theorem dX11_isWord_62 : decode cX11_isWord 62 = .ok (.aload_n 1, 1) := by decide +kernel
theorem dX11_isWord_63 : decode cX11_isWord 63 = .ok (.iload_n 3, 1) := by decide +kernel
theorem dX11_isWord_64 : decode cX11_isWord 64 = .ok (.invokevirtual 116, 3) := by decide +kernel
theorem dX11_isWord_67 : decode cX11_isWord 67 = .ok (.if_icmp .ne 7, 3) := by decide +kernel
theorem dX11_isWord_7 : decode cX11_isWord 7 = .ok (.aload_n 0, 1) := by decide +kernel
theorem dX11_isWord_70 : decode cX11_isWord 70 = .ok (.iconst 1, 1) := by decide +kernel
theorem dX11_isWord_71 : decode cX11_isWord 71 = .ok (.goto 4, 3) := by decide +kernel
theorem dX11_isWord_74 : decode cX11_isWord 74 = .ok (.iconst 0, 1) := by decide +kernel
theorem dX11_isWord_75 : decode cX11_isWord 75 = .ok (.istore_n 2, 1) := by decide +kernel
theorem dX11_isWord_76 : decode cX11_isWord 76 = .ok (.iinc 3 1, 3) := by decide +kernel
theorem dX11_isWord_79 : decode cX11_isWord 79 = .ok (.goto (-40), 3) := by decide +kernel
theorem dX11_isWord_8 : decode cX11_isWord 8 = .ok (.getfield 85, 3) := by decide +kernel
theorem dX11_isWord_82 : decode cX11_isWord 82 = .ok (.iload_n 2, 1) := by decide +kernel
theorem dX11_isWord_83 : decode cX11_isWord 83 = .ok (.ireturn, 1) := by decide +kernel
theorem dX11_keeps_0 : decode cX11_keeps 0 = .ok (.aload_n 0, 1) := by decide +kernel
theorem dX11_keeps_1 : decode cX11_keeps 1 = .ok (.getfield 9, 3) := by decide +kernel
theorem dX11_keeps_101 : decode cX11_keeps 101 = .ok (.bipush 7, 2) := by decide +kernel
theorem dX11_keeps_103 : decode cX11_keeps 103 = .ok (.dup2, 1) := by decide +kernel
theorem dX11_keeps_104 : decode cX11_keeps 104 = .ok (.iaload, 1) := by decide +kernel
theorem dX11_keeps_105 : decode cX11_keeps 105 = .ok (.iconst 1, 1) := by decide +kernel
theorem dX11_keeps_106 : decode cX11_keeps 106 = .ok (.iadd, 1) := by decide +kernel
theorem dX11_keeps_107 : decode cX11_keeps 107 = .ok (.iastore, 1) := by decide +kernel
theorem dX11_keeps_108 : decode cX11_keeps 108 = .ok (.return_, 1) := by decide +kernel
theorem dX11_keeps_12 : decode cX11_keeps 12 = .ok (.bipush 89, 2) := by decide +kernel
theorem dX11_keeps_14 : decode cX11_keeps 14 = .ok (.istore_n 1, 1) := by decide +kernel
theorem dX11_keeps_15 : decode cX11_keeps 15 = .ok (.iload_n 1, 1) := by decide +kernel
theorem dX11_keeps_16 : decode cX11_keeps 16 = .ok (.sipush 422, 3) := by decide +kernel
theorem dX11_keeps_19 : decode cX11_keeps 19 = .ok (.if_icmp .ge 24, 3) := by decide +kernel
theorem dX11_keeps_22 : decode cX11_keeps 22 = .ok (.aload_n 0, 1) := by decide +kernel
theorem dX11_keeps_23 : decode cX11_keeps 23 = .ok (.getfield 9, 3) := by decide +kernel
theorem dX11_keeps_26 : decode cX11_keeps 26 = .ok (.iload_n 1, 1) := by decide +kernel
theorem dX11_keeps_27 : decode cX11_keeps 27 = .ok (.aload_n 0, 1) := by decide +kernel
theorem dX11_keeps_28 : decode cX11_keeps 28 = .ok (.getfield 9, 3) := by decide +kernel
theorem dX11_keeps_31 : decode cX11_keeps 31 = .ok (.iload_n 1, 1) := by decide +kernel
theorem dX11_keeps_32 : decode cX11_keeps 32 = .ok (.bipush 37, 2) := by decide +kernel
theorem dX11_keeps_34 : decode cX11_keeps 34 = .ok (.iadd, 1) := by decide +kernel
theorem dX11_keeps_35 : decode cX11_keeps 35 = .ok (.iaload, 1) := by decide +kernel
theorem dX11_keeps_36 : decode cX11_keeps 36 = .ok (.iastore, 1) := by decide +kernel
theorem dX11_keeps_37 : decode cX11_keeps 37 = .ok (.iinc 1 1, 3) := by decide +kernel
theorem dX11_keeps_4 : decode cX11_keeps 4 = .ok (.bipush 7, 2) := by decide +kernel
theorem dX11_keeps_40 : decode cX11_keeps 40 = .ok (.goto (-25), 3) := by decide +kernel
theorem dX11_keeps_43 : decode cX11_keeps 43 = .ok (.aload_n 0, 1) := by decide +kernel
theorem dX11_keeps_44 : decode cX11_keeps 44 = .ok (.getfield 9, 3) := by decide +kernel
theorem dX11_keeps_47 : decode cX11_keeps 47 = .ok (.bipush 7, 2) := by decide +kernel
theorem dX11_keeps_49 : decode cX11_keeps 49 = .ok (.dup2, 1) := by decide +kernel
theorem dX11_keeps_50 : decode cX11_keeps 50 = .ok (.iaload, 1) := by decide +kernel
theorem dX11_keeps_51 : decode cX11_keeps 51 = .ok (.iconst 1, 1) := by decide +kernel
theorem dX11_keeps_52 : decode cX11_keeps 52 = .ok (.isub, 1) := by decide +kernel
theorem dX11_keeps_53 : decode cX11_keeps 53 = .ok (.iastore, 1) := by decide +kernel
theorem dX11_keeps_54 : decode cX11_keeps 54 = .ok (.iconst 0, 1) := by decide +kernel
theorem dX11_keeps_55 : decode cX11_keeps 55 = .ok (.istore_n 1, 1) := by decide +kernel
theorem dX11_keeps_56 : decode cX11_keeps 56 = .ok (.iload_n 1, 1) := by decide +kernel
theorem dX11_keeps_57 : decode cX11_keeps 57 = .ok (.bipush 37, 2) := by decide +kernel
theorem dX11_keeps_59 : decode cX11_keeps 59 = .ok (.if_icmp .ge 38, 3) := by decide +kernel
theorem dX11_keeps_6 : decode cX11_keeps 6 = .ok (.iaload, 1) := by decide +kernel
theorem dX11_keeps_62 : decode cX11_keeps 62 = .ok (.aload_n 0, 1) := by decide +kernel
theorem dX11_keeps_63 : decode cX11_keeps 63 = .ok (.getfield 9, 3) := by decide +kernel
theorem dX11_keeps_66 : decode cX11_keeps 66 = .ok (.bipush 89, 2) := by decide +kernel
theorem dX11_keeps_68 : decode cX11_keeps 68 = .ok (.bipush 37, 2) := by decide +kernel
theorem dX11_keeps_7 : decode cX11_keeps 7 = .ok (.bipush 10, 2) := by decide +kernel
theorem dX11_keeps_70 : decode cX11_keeps 70 = .ok (.aload_n 0, 1) := by decide +kernel
theorem dX11_keeps_71 : decode cX11_keeps 71 = .ok (.getfield 9, 3) := by decide +kernel
theorem dX11_keeps_74 : decode cX11_keeps 74 = .ok (.bipush 7, 2) := by decide +kernel
theorem dX11_keeps_76 : decode cX11_keeps 76 = .ok (.iaload, 1) := by decide +kernel
theorem dX11_keeps_77 : decode cX11_keeps 77 = .ok (.imul, 1) := by decide +kernel
theorem dX11_keeps_78 : decode cX11_keeps 78 = .ok (.iadd, 1) := by decide +kernel
theorem dX11_keeps_79 : decode cX11_keeps 79 = .ok (.iload_n 1, 1) := by decide +kernel
theorem dX11_keeps_80 : decode cX11_keeps 80 = .ok (.iadd, 1) := by decide +kernel
theorem dX11_keeps_81 : decode cX11_keeps 81 = .ok (.aload_n 0, 1) := by decide +kernel
theorem dX11_keeps_82 : decode cX11_keeps 82 = .ok (.getfield 9, 3) := by decide +kernel
theorem dX11_keeps_85 : decode cX11_keeps 85 = .ok (.bipush 8, 2) := by decide +kernel
theorem dX11_keeps_87 : decode cX11_keeps 87 = .ok (.iload_n 1, 1) := by decide +kernel
theorem dX11_keeps_88 : decode cX11_keeps 88 = .ok (.iadd, 1) := by decide +kernel
theorem dX11_keeps_89 : decode cX11_keeps 89 = .ok (.iaload, 1) := by decide +kernel
theorem dX11_keeps_9 : decode cX11_keeps 9 = .ok (.if_icmp .ne 45, 3) := by decide +kernel
theorem dX11_keeps_90 : decode cX11_keeps 90 = .ok (.iastore, 1) := by decide +kernel
theorem dX11_keeps_91 : decode cX11_keeps 91 = .ok (.iinc 1 1, 3) := by decide +kernel
theorem dX11_keeps_94 : decode cX11_keeps 94 = .ok (.goto (-38), 3) := by decide +kernel
theorem dX11_keeps_97 : decode cX11_keeps 97 = .ok (.aload_n 0, 1) := by decide +kernel
theorem dX11_keeps_98 : decode cX11_keeps 98 = .ok (.getfield 9, 3) := by decide +kernel
theorem dX11_lawWord_0 : decode cX11_lawWord 0 = .ok (.aload_n 0, 1) := by decide +kernel
theorem dX11_lawWord_1 : decode cX11_lawWord 1 = .ok (.getfield 141, 3) := by decide +kernel
theorem dX11_lawWord_12 : decode cX11_lawWord 12 = .ok (.goto 7, 3) := by decide +kernel
theorem dX11_lawWord_15 : decode cX11_lawWord 15 = .ok (.aload_n 0, 1) := by decide +kernel
theorem dX11_lawWord_16 : decode cX11_lawWord 16 = .ok (.invokevirtual 206, 3) := by decide +kernel
theorem dX11_lawWord_19 : decode cX11_lawWord 19 = .ok (.ireturn, 1) := by decide +kernel
theorem dX11_lawWord_4 : decode cX11_lawWord 4 = .ok (.iconst 5, 1) := by decide +kernel
theorem dX11_lawWord_5 : decode cX11_lawWord 5 = .ok (.if_icmp .ne 10, 3) := by decide +kernel
theorem dX11_lawWord_8 : decode cX11_lawWord 8 = .ok (.aload_n 0, 1) := by decide +kernel
theorem dX11_lawWord_9 : decode cX11_lawWord 9 = .ok (.invokevirtual 203, 3) := by decide +kernel
theorem dX11_lays_0 : decode cX11_lays 0 = .ok (.aload_n 0, 1) := by decide +kernel
theorem dX11_lays_1 : decode cX11_lays 1 = .ok (.getfield 105, 3) := by decide +kernel
theorem dX11_lays_12 : decode cX11_lays 12 = .ok (.bipush 8, 2) := by decide +kernel
theorem dX11_lays_14 : decode cX11_lays 14 = .ok (.iload_n 1, 1) := by decide +kernel
theorem dX11_lays_15 : decode cX11_lays 15 = .ok (.iadd, 1) := by decide +kernel
theorem dX11_lays_16 : decode cX11_lays 16 = .ok (.iload_n 2, 1) := by decide +kernel
theorem dX11_lays_17 : decode cX11_lays 17 = .ok (.iastore, 1) := by decide +kernel
theorem dX11_lays_18 : decode cX11_lays 18 = .ok (.aload_n 0, 1) := by decide +kernel
theorem dX11_lays_19 : decode cX11_lays 19 = .ok (.getfield 13, 3) := by decide +kernel
theorem dX11_lays_22 : decode cX11_lays 22 = .ok (.bipush 16, 2) := by decide +kernel
theorem dX11_lays_24 : decode cX11_lays 24 = .ok (.iload_n 1, 1) := by decide +kernel
theorem dX11_lays_25 : decode cX11_lays 25 = .ok (.iadd, 1) := by decide +kernel
theorem dX11_lays_26 : decode cX11_lays 26 = .ok (.iload_n 3, 1) := by decide +kernel
theorem dX11_lays_27 : decode cX11_lays 27 = .ok (.iastore, 1) := by decide +kernel
theorem dX11_lays_28 : decode cX11_lays 28 = .ok (.aload_n 0, 1) := by decide +kernel
theorem dX11_lays_29 : decode cX11_lays 29 = .ok (.getfield 13, 3) := by decide +kernel
theorem dX11_lays_32 : decode cX11_lays 32 = .ok (.bipush 24, 2) := by decide +kernel
theorem dX11_lays_34 : decode cX11_lays 34 = .ok (.iload_n 1, 1) := by decide +kernel
theorem dX11_lays_35 : decode cX11_lays 35 = .ok (.iadd, 1) := by decide +kernel
theorem dX11_lays_36 : decode cX11_lays 36 = .ok (.iload 4, 2) := by decide +kernel
theorem dX11_lays_38 : decode cX11_lays 38 = .ok (.iastore, 1) := by decide +kernel
theorem dX11_lays_39 : decode cX11_lays 39 = .ok (.aload_n 0, 1) := by decide +kernel
theorem dX11_lays_4 : decode cX11_lays 4 = .ok (.ifCond .eq 4, 3) := by decide +kernel
theorem dX11_lays_40 : decode cX11_lays 40 = .ok (.getfield 13, 3) := by decide +kernel
theorem dX11_lays_43 : decode cX11_lays 43 = .ok (.bipush 32, 2) := by decide +kernel
theorem dX11_lays_45 : decode cX11_lays 45 = .ok (.iload_n 1, 1) := by decide +kernel
theorem dX11_lays_46 : decode cX11_lays 46 = .ok (.iadd, 1) := by decide +kernel
theorem dX11_lays_47 : decode cX11_lays 47 = .ok (.iload 5, 2) := by decide +kernel
theorem dX11_lays_49 : decode cX11_lays 49 = .ok (.iastore, 1) := by decide +kernel
theorem dX11_lays_50 : decode cX11_lays 50 = .ok (.return_, 1) := by decide +kernel
theorem dX11_lays_7 : decode cX11_lays 7 = .ok (.return_, 1) := by decide +kernel
theorem dX11_lays_8 : decode cX11_lays 8 = .ok (.aload_n 0, 1) := by decide +kernel
theorem dX11_lays_9 : decode cX11_lays 9 = .ok (.getfield 13, 3) := by decide +kernel
theorem dX11_mustSign_0 : decode cX11_mustSign 0 = .ok (.aload_n 0, 1) := by decide +kernel
theorem dX11_mustSign_1 : decode cX11_mustSign 1 = .ok (.getfield 85, 3) := by decide +kernel
theorem dX11_mustSign_10 : decode cX11_mustSign 10 = .ok (.invokevirtual 127, 3) := by decide +kernel
theorem dX11_mustSign_13 : decode cX11_mustSign 13 = .ok (.aload_n 0, 1) := by decide +kernel
theorem dX11_mustSign_14 : decode cX11_mustSign 14 = .ok (.getfield 105, 3) := by decide +kernel
theorem dX11_mustSign_17 : decode cX11_mustSign 17 = .ok (.ifCond .ne 7, 3) := by decide +kernel
theorem dX11_mustSign_20 : decode cX11_mustSign 20 = .ok (.aload_n 0, 1) := by decide +kernel
theorem dX11_mustSign_21 : decode cX11_mustSign 21 = .ok (.invokevirtual 124, 3) := by decide +kernel
theorem dX11_mustSign_24 : decode cX11_mustSign 24 = .ok (.return_, 1) := by decide +kernel
theorem dX11_mustSign_4 : decode cX11_mustSign 4 = .ok (.iload_n 1, 1) := by decide +kernel
theorem dX11_mustSign_5 : decode cX11_mustSign 5 = .ok (.if_icmp .eq 8, 3) := by decide +kernel
theorem dX11_mustSign_8 : decode cX11_mustSign 8 = .ok (.aload_n 0, 1) := by decide +kernel
theorem dX11_mustSign_9 : decode cX11_mustSign 9 = .ok (.iconst 2, 1) := by decide +kernel
theorem dX11_mustWord_0 : decode cX11_mustWord 0 = .ok (.aload_n 0, 1) := by decide +kernel
theorem dX11_mustWord_1 : decode cX11_mustWord 1 = .ok (.aload_n 1, 1) := by decide +kernel
theorem dX11_mustWord_10 : decode cX11_mustWord 10 = .ok (.invokevirtual 127, 3) := by decide +kernel
theorem dX11_mustWord_13 : decode cX11_mustWord 13 = .ok (.return_, 1) := by decide +kernel
theorem dX11_mustWord_2 : decode cX11_mustWord 2 = .ok (.invokevirtual 135, 3) := by decide +kernel
theorem dX11_mustWord_5 : decode cX11_mustWord 5 = .ok (.ifCond .ne 8, 3) := by decide +kernel
theorem dX11_mustWord_8 : decode cX11_mustWord 8 = .ok (.aload_n 0, 1) := by decide +kernel
theorem dX11_mustWord_9 : decode cX11_mustWord 9 = .ok (.iconst 2, 1) := by decide +kernel
theorem dX11_number_0 : decode cX11_number 0 = .ok (.aload_n 0, 1) := by decide +kernel
theorem dX11_number_1 : decode cX11_number 1 = .ok (.getfield 85, 3) := by decide +kernel
theorem dX11_number_10 : decode cX11_number 10 = .ok (.invokevirtual 127, 3) := by decide +kernel
theorem dX11_number_13 : decode cX11_number 13 = .ok (.goto 23, 3) := by decide +kernel
theorem dX11_number_16 : decode cX11_number 16 = .ok (.aload_n 0, 1) := by decide +kernel
theorem dX11_number_17 : decode cX11_number 17 = .ok (.getfield 99, 3) := by decide +kernel
theorem dX11_number_20 : decode cX11_number 20 = .ok (.i2l, 1) := by decide +kernel
theorem dX11_number_21 : decode cX11_number 21 = .ok (.iload_n 1, 1) := by decide +kernel
theorem dX11_number_22 : decode cX11_number 22 = .ok (.i2l, 1) := by decide +kernel
theorem dX11_number_23 : decode cX11_number 23 = .ok (.iload_n 2, 1) := by decide +kernel
theorem dX11_number_24 : decode cX11_number 24 = .ok (.i2l, 1) := by decide +kernel
theorem dX11_number_25 : decode cX11_number 25 = .ok (.invokestatic 131, 3) := by decide +kernel
theorem dX11_number_28 : decode cX11_number 28 = .ok (.ifCond .ne 8, 3) := by decide +kernel
theorem dX11_number_31 : decode cX11_number 31 = .ok (.aload_n 0, 1) := by decide +kernel
theorem dX11_number_32 : decode cX11_number 32 = .ok (.iconst 3, 1) := by decide +kernel
theorem dX11_number_33 : decode cX11_number 33 = .ok (.invokevirtual 127, 3) := by decide +kernel
theorem dX11_number_36 : decode cX11_number 36 = .ok (.aload_n 0, 1) := by decide +kernel
theorem dX11_number_37 : decode cX11_number 37 = .ok (.getfield 99, 3) := by decide +kernel
theorem dX11_number_4 : decode cX11_number 4 = .ok (.iconst 2, 1) := by decide +kernel
theorem dX11_number_40 : decode cX11_number 40 = .ok (.istore_n 3, 1) := by decide +kernel
theorem dX11_number_41 : decode cX11_number 41 = .ok (.aload_n 0, 1) := by decide +kernel
theorem dX11_number_42 : decode cX11_number 42 = .ok (.getfield 105, 3) := by decide +kernel
theorem dX11_number_45 : decode cX11_number 45 = .ok (.ifCond .ne 7, 3) := by decide +kernel
theorem dX11_number_48 : decode cX11_number 48 = .ok (.aload_n 0, 1) := by decide +kernel
theorem dX11_number_49 : decode cX11_number 49 = .ok (.invokevirtual 124, 3) := by decide +kernel
theorem dX11_number_5 : decode cX11_number 5 = .ok (.if_icmp .eq 11, 3) := by decide +kernel
theorem dX11_number_52 : decode cX11_number 52 = .ok (.aload_n 0, 1) := by decide +kernel
theorem dX11_number_53 : decode cX11_number 53 = .ok (.getfield 105, 3) := by decide +kernel
theorem dX11_number_56 : decode cX11_number 56 = .ok (.ifCond .ne 7, 3) := by decide +kernel
theorem dX11_number_59 : decode cX11_number 59 = .ok (.iload_n 3, 1) := by decide +kernel
theorem dX11_number_60 : decode cX11_number 60 = .ok (.goto 4, 3) := by decide +kernel
theorem dX11_number_63 : decode cX11_number 63 = .ok (.iload_n 1, 1) := by decide +kernel
theorem dX11_number_64 : decode cX11_number 64 = .ok (.ireturn, 1) := by decide +kernel
theorem dX11_number_8 : decode cX11_number 8 = .ok (.aload_n 0, 1) := by decide +kernel
theorem dX11_number_9 : decode cX11_number 9 = .ok (.iconst 2, 1) := by decide +kernel
theorem dX11_putsAside_0 : decode cX11_putsAside 0 = .ok (.iconst 0, 1) := by decide +kernel
theorem dX11_putsAside_1 : decode cX11_putsAside 1 = .ok (.istore_n 1, 1) := by decide +kernel
theorem dX11_putsAside_12 : decode cX11_putsAside 12 = .ok (.iload_n 1, 1) := by decide +kernel
theorem dX11_putsAside_13 : decode cX11_putsAside 13 = .ok (.aload_n 0, 1) := by decide +kernel
theorem dX11_putsAside_14 : decode cX11_putsAside 14 = .ok (.getfield 9, 3) := by decide +kernel
theorem dX11_putsAside_17 : decode cX11_putsAside 17 = .ok (.bipush 8, 2) := by decide +kernel
theorem dX11_putsAside_19 : decode cX11_putsAside 19 = .ok (.iload_n 1, 1) := by decide +kernel
theorem dX11_putsAside_2 : decode cX11_putsAside 2 = .ok (.iload_n 1, 1) := by decide +kernel
theorem dX11_putsAside_20 : decode cX11_putsAside 20 = .ok (.iadd, 1) := by decide +kernel
theorem dX11_putsAside_21 : decode cX11_putsAside 21 = .ok (.iaload, 1) := by decide +kernel
theorem dX11_putsAside_22 : decode cX11_putsAside 22 = .ok (.iastore, 1) := by decide +kernel
theorem dX11_putsAside_23 : decode cX11_putsAside 23 = .ok (.iinc 1 1, 3) := by decide +kernel
theorem dX11_putsAside_26 : decode cX11_putsAside 26 = .ok (.goto (-24), 3) := by decide +kernel
theorem dX11_putsAside_29 : decode cX11_putsAside 29 = .ok (.return_, 1) := by decide +kernel
theorem dX11_putsAside_3 : decode cX11_putsAside 3 = .ok (.bipush 37, 2) := by decide +kernel
theorem dX11_putsAside_5 : decode cX11_putsAside 5 = .ok (.if_icmp .ge 24, 3) := by decide +kernel
theorem dX11_putsAside_8 : decode cX11_putsAside 8 = .ok (.aload_n 0, 1) := by decide +kernel
theorem dX11_putsAside_9 : decode cX11_putsAside 9 = .ok (.getfield 36, 3) := by decide +kernel
theorem dX11_putsBack_0 : decode cX11_putsBack 0 = .ok (.iconst 0, 1) := by decide +kernel
theorem dX11_putsBack_1 : decode cX11_putsBack 1 = .ok (.istore_n 1, 1) := by decide +kernel
theorem dX11_putsBack_12 : decode cX11_putsBack 12 = .ok (.bipush 8, 2) := by decide +kernel
theorem dX11_putsBack_14 : decode cX11_putsBack 14 = .ok (.iload_n 1, 1) := by decide +kernel
theorem dX11_putsBack_15 : decode cX11_putsBack 15 = .ok (.iadd, 1) := by decide +kernel
theorem dX11_putsBack_16 : decode cX11_putsBack 16 = .ok (.aload_n 0, 1) := by decide +kernel
theorem dX11_putsBack_17 : decode cX11_putsBack 17 = .ok (.getfield 36, 3) := by decide +kernel
theorem dX11_putsBack_2 : decode cX11_putsBack 2 = .ok (.iload_n 1, 1) := by decide +kernel
theorem dX11_putsBack_20 : decode cX11_putsBack 20 = .ok (.iload_n 1, 1) := by decide +kernel
theorem dX11_putsBack_21 : decode cX11_putsBack 21 = .ok (.iaload, 1) := by decide +kernel
theorem dX11_putsBack_22 : decode cX11_putsBack 22 = .ok (.iastore, 1) := by decide +kernel
theorem dX11_putsBack_23 : decode cX11_putsBack 23 = .ok (.iinc 1 1, 3) := by decide +kernel
theorem dX11_putsBack_26 : decode cX11_putsBack 26 = .ok (.goto (-24), 3) := by decide +kernel
theorem dX11_putsBack_29 : decode cX11_putsBack 29 = .ok (.return_, 1) := by decide +kernel
theorem dX11_putsBack_3 : decode cX11_putsBack 3 = .ok (.bipush 37, 2) := by decide +kernel
theorem dX11_putsBack_5 : decode cX11_putsBack 5 = .ok (.if_icmp .ge 24, 3) := by decide +kernel
theorem dX11_putsBack_8 : decode cX11_putsBack 8 = .ok (.aload_n 0, 1) := by decide +kernel
theorem dX11_putsBack_9 : decode cX11_putsBack 9 = .ok (.getfield 9, 3) := by decide +kernel
theorem dX11_readStop_0 : decode cX11_readStop 0 = .ok (.aload_n 0, 1) := by decide +kernel
theorem dX11_readStop_1 : decode cX11_readStop 1 = .ok (.bipush 59, 2) := by decide +kernel
theorem dX11_readStop_10 : decode cX11_readStop 10 = .ok (.ifCond .ne 13, 3) := by decide +kernel
theorem dX11_readStop_13 : decode cX11_readStop 13 = .ok (.aload_n 0, 1) := by decide +kernel
theorem dX11_readStop_14 : decode cX11_readStop 14 = .ok (.getfield 13, 3) := by decide +kernel
theorem dX11_readStop_17 : decode cX11_readStop 17 = .ok (.iconst 0, 1) := by decide +kernel
theorem dX11_readStop_18 : decode cX11_readStop 18 = .ok (.dup2, 1) := by decide +kernel
theorem dX11_readStop_19 : decode cX11_readStop 19 = .ok (.iaload, 1) := by decide +kernel
theorem dX11_readStop_20 : decode cX11_readStop 20 = .ok (.iconst 1, 1) := by decide +kernel
theorem dX11_readStop_21 : decode cX11_readStop 21 = .ok (.iadd, 1) := by decide +kernel
theorem dX11_readStop_22 : decode cX11_readStop 22 = .ok (.iastore, 1) := by decide +kernel
theorem dX11_readStop_23 : decode cX11_readStop 23 = .ok (.return_, 1) := by decide +kernel
theorem dX11_readStop_3 : decode cX11_readStop 3 = .ok (.invokevirtual 171, 3) := by decide +kernel
theorem dX11_readStop_6 : decode cX11_readStop 6 = .ok (.aload_n 0, 1) := by decide +kernel
theorem dX11_readStop_7 : decode cX11_readStop 7 = .ok (.getfield 105, 3) := by decide +kernel
theorem dX11_readsOn_0 : decode cX11_readsOn 0 = .ok (.aload_n 0, 1) := by decide +kernel
theorem dX11_readsOn_1 : decode cX11_readsOn 1 = .ok (.getfield 79, 3) := by decide +kernel
theorem dX11_readsOn_102 : decode cX11_readsOn 102 = .ok (.invokestatic 88, 3) := by decide +kernel
theorem dX11_readsOn_105 : decode cX11_readsOn 105 = .ok (.ifCond .eq 16, 3) := by decide +kernel
theorem dX11_readsOn_108 : decode cX11_readsOn 108 = .ok (.aload_n 0, 1) := by decide +kernel
theorem dX11_readsOn_109 : decode cX11_readsOn 109 = .ok (.dup, 1) := by decide +kernel
theorem dX11_readsOn_11 : decode cX11_readsOn 11 = .ok (.aload_n 0, 1) := by decide +kernel
theorem dX11_readsOn_110 : decode cX11_readsOn 110 = .ok (.getfield 79, 3) := by decide +kernel
theorem dX11_readsOn_113 : decode cX11_readsOn 113 = .ok (.iconst 1, 1) := by decide +kernel
theorem dX11_readsOn_114 : decode cX11_readsOn 114 = .ok (.iadd, 1) := by decide +kernel
theorem dX11_readsOn_115 : decode cX11_readsOn 115 = .ok (.putfield 79, 3) := by decide +kernel
theorem dX11_readsOn_118 : decode cX11_readsOn 118 = .ok (.goto (-24), 3) := by decide +kernel
theorem dX11_readsOn_12 : decode cX11_readsOn 12 = .ok (.getfield 23, 3) := by decide +kernel
theorem dX11_readsOn_121 : decode cX11_readsOn 121 = .ok (.aload_n 0, 1) := by decide +kernel
theorem dX11_readsOn_122 : decode cX11_readsOn 122 = .ok (.iconst 1, 1) := by decide +kernel
theorem dX11_readsOn_123 : decode cX11_readsOn 123 = .ok (.putfield 85, 3) := by decide +kernel
theorem dX11_readsOn_126 : decode cX11_readsOn 126 = .ok (.goto 137, 3) := by decide +kernel
theorem dX11_readsOn_129 : decode cX11_readsOn 129 = .ok (.iload_n 1, 1) := by decide +kernel
theorem dX11_readsOn_130 : decode cX11_readsOn 130 = .ok (.invokestatic 96, 3) := by decide +kernel
theorem dX11_readsOn_133 : decode cX11_readsOn 133 = .ok (.ifCond .eq 104, 3) := by decide +kernel
theorem dX11_readsOn_136 : decode cX11_readsOn 136 = .ok (.aload_n 0, 1) := by decide +kernel
theorem dX11_readsOn_137 : decode cX11_readsOn 137 = .ok (.iconst 0, 1) := by decide +kernel
theorem dX11_readsOn_138 : decode cX11_readsOn 138 = .ok (.putfield 99, 3) := by decide +kernel
theorem dX11_readsOn_141 : decode cX11_readsOn 141 = .ok (.aload_n 0, 1) := by decide +kernel
theorem dX11_readsOn_142 : decode cX11_readsOn 142 = .ok (.aload_n 0, 1) := by decide +kernel
theorem dX11_readsOn_143 : decode cX11_readsOn 143 = .ok (.getfield 79, 3) := by decide +kernel
theorem dX11_readsOn_146 : decode cX11_readsOn 146 = .ok (.invokevirtual 92, 3) := by decide +kernel
theorem dX11_readsOn_149 : decode cX11_readsOn 149 = .ok (.invokestatic 96, 3) := by decide +kernel
theorem dX11_readsOn_15 : decode cX11_readsOn 15 = .ok (.aload_n 0, 1) := by decide +kernel
theorem dX11_readsOn_152 : decode cX11_readsOn 152 = .ok (.ifCond .eq 60, 3) := by decide +kernel
theorem dX11_readsOn_155 : decode cX11_readsOn 155 = .ok (.aload_n 0, 1) := by decide +kernel
theorem dX11_readsOn_156 : decode cX11_readsOn 156 = .ok (.aload_n 0, 1) := by decide +kernel
theorem dX11_readsOn_157 : decode cX11_readsOn 157 = .ok (.getfield 79, 3) := by decide +kernel
theorem dX11_readsOn_16 : decode cX11_readsOn 16 = .ok (.getfield 79, 3) := by decide +kernel
theorem dX11_readsOn_160 : decode cX11_readsOn 160 = .ok (.aload_n 0, 1) := by decide +kernel
theorem dX11_readsOn_161 : decode cX11_readsOn 161 = .ok (.getfield 82, 3) := by decide +kernel
theorem dX11_readsOn_164 : decode cX11_readsOn 164 = .ok (.isub, 1) := by decide +kernel
theorem dX11_readsOn_165 : decode cX11_readsOn 165 = .ok (.iconst 3, 1) := by decide +kernel
theorem dX11_readsOn_166 : decode cX11_readsOn 166 = .ok (.if_icmp .ge 26, 3) := by decide +kernel
theorem dX11_readsOn_169 : decode cX11_readsOn 169 = .ok (.bipush 10, 2) := by decide +kernel
theorem dX11_readsOn_171 : decode cX11_readsOn 171 = .ok (.aload_n 0, 1) := by decide +kernel
theorem dX11_readsOn_172 : decode cX11_readsOn 172 = .ok (.getfield 99, 3) := by decide +kernel
theorem dX11_readsOn_175 : decode cX11_readsOn 175 = .ok (.imul, 1) := by decide +kernel
theorem dX11_readsOn_176 : decode cX11_readsOn 176 = .ok (.aload_n 0, 1) := by decide +kernel
theorem dX11_readsOn_177 : decode cX11_readsOn 177 = .ok (.getfield 23, 3) := by decide +kernel
theorem dX11_readsOn_180 : decode cX11_readsOn 180 = .ok (.aload_n 0, 1) := by decide +kernel
theorem dX11_readsOn_181 : decode cX11_readsOn 181 = .ok (.getfield 79, 3) := by decide +kernel
theorem dX11_readsOn_184 : decode cX11_readsOn 184 = .ok (.iaload, 1) := by decide +kernel
theorem dX11_readsOn_185 : decode cX11_readsOn 185 = .ok (.iadd, 1) := by decide +kernel
theorem dX11_readsOn_186 : decode cX11_readsOn 186 = .ok (.bipush 48, 2) := by decide +kernel
theorem dX11_readsOn_188 : decode cX11_readsOn 188 = .ok (.isub, 1) := by decide +kernel
theorem dX11_readsOn_189 : decode cX11_readsOn 189 = .ok (.goto 7, 3) := by decide +kernel
theorem dX11_readsOn_19 : decode cX11_readsOn 19 = .ok (.iaload, 1) := by decide +kernel
theorem dX11_readsOn_192 : decode cX11_readsOn 192 = .ok (.aload_n 0, 1) := by decide +kernel
theorem dX11_readsOn_193 : decode cX11_readsOn 193 = .ok (.getfield 99, 3) := by decide +kernel
theorem dX11_readsOn_196 : decode cX11_readsOn 196 = .ok (.putfield 99, 3) := by decide +kernel
theorem dX11_readsOn_199 : decode cX11_readsOn 199 = .ok (.aload_n 0, 1) := by decide +kernel
theorem dX11_readsOn_20 : decode cX11_readsOn 20 = .ok (.bipush 32, 2) := by decide +kernel
theorem dX11_readsOn_200 : decode cX11_readsOn 200 = .ok (.dup, 1) := by decide +kernel
theorem dX11_readsOn_201 : decode cX11_readsOn 201 = .ok (.getfield 79, 3) := by decide +kernel
theorem dX11_readsOn_204 : decode cX11_readsOn 204 = .ok (.iconst 1, 1) := by decide +kernel
theorem dX11_readsOn_205 : decode cX11_readsOn 205 = .ok (.iadd, 1) := by decide +kernel
theorem dX11_readsOn_206 : decode cX11_readsOn 206 = .ok (.putfield 79, 3) := by decide +kernel
theorem dX11_readsOn_209 : decode cX11_readsOn 209 = .ok (.goto (-68), 3) := by decide +kernel
theorem dX11_readsOn_212 : decode cX11_readsOn 212 = .ok (.aload_n 0, 1) := by decide +kernel
theorem dX11_readsOn_213 : decode cX11_readsOn 213 = .ok (.aload_n 0, 1) := by decide +kernel
theorem dX11_readsOn_214 : decode cX11_readsOn 214 = .ok (.getfield 79, 3) := by decide +kernel
theorem dX11_readsOn_217 : decode cX11_readsOn 217 = .ok (.aload_n 0, 1) := by decide +kernel
theorem dX11_readsOn_218 : decode cX11_readsOn 218 = .ok (.getfield 82, 3) := by decide +kernel
theorem dX11_readsOn_22 : decode cX11_readsOn 22 = .ok (.if_icmp .eq 17, 3) := by decide +kernel
theorem dX11_readsOn_221 : decode cX11_readsOn 221 = .ok (.isub, 1) := by decide +kernel
theorem dX11_readsOn_222 : decode cX11_readsOn 222 = .ok (.iconst 3, 1) := by decide +kernel
theorem dX11_readsOn_223 : decode cX11_readsOn 223 = .ok (.if_icmp .le 7, 3) := by decide +kernel
theorem dX11_readsOn_226 : decode cX11_readsOn 226 = .ok (.iconst 3, 1) := by decide +kernel
theorem dX11_readsOn_227 : decode cX11_readsOn 227 = .ok (.goto 4, 3) := by decide +kernel
theorem dX11_readsOn_230 : decode cX11_readsOn 230 = .ok (.iconst 2, 1) := by decide +kernel
theorem dX11_readsOn_231 : decode cX11_readsOn 231 = .ok (.putfield 85, 3) := by decide +kernel
theorem dX11_readsOn_234 : decode cX11_readsOn 234 = .ok (.goto 29, 3) := by decide +kernel
theorem dX11_readsOn_237 : decode cX11_readsOn 237 = .ok (.aload_n 0, 1) := by decide +kernel
theorem dX11_readsOn_238 : decode cX11_readsOn 238 = .ok (.iload_n 1, 1) := by decide +kernel
theorem dX11_readsOn_239 : decode cX11_readsOn 239 = .ok (.invokestatic 102, 3) := by decide +kernel
theorem dX11_readsOn_242 : decode cX11_readsOn 242 = .ok (.ifCond .eq 7, 3) := by decide +kernel
theorem dX11_readsOn_245 : decode cX11_readsOn 245 = .ok (.iload_n 1, 1) := by decide +kernel
theorem dX11_readsOn_246 : decode cX11_readsOn 246 = .ok (.goto 4, 3) := by decide +kernel
theorem dX11_readsOn_249 : decode cX11_readsOn 249 = .ok (.iconst 3, 1) := by decide +kernel
theorem dX11_readsOn_25 : decode cX11_readsOn 25 = .ok (.aload_n 0, 1) := by decide +kernel
theorem dX11_readsOn_250 : decode cX11_readsOn 250 = .ok (.putfield 85, 3) := by decide +kernel
theorem dX11_readsOn_253 : decode cX11_readsOn 253 = .ok (.aload_n 0, 1) := by decide +kernel
theorem dX11_readsOn_254 : decode cX11_readsOn 254 = .ok (.dup, 1) := by decide +kernel
theorem dX11_readsOn_255 : decode cX11_readsOn 255 = .ok (.getfield 79, 3) := by decide +kernel
theorem dX11_readsOn_258 : decode cX11_readsOn 258 = .ok (.iconst 1, 1) := by decide +kernel
theorem dX11_readsOn_259 : decode cX11_readsOn 259 = .ok (.iadd, 1) := by decide +kernel
theorem dX11_readsOn_26 : decode cX11_readsOn 26 = .ok (.getfield 23, 3) := by decide +kernel
theorem dX11_readsOn_260 : decode cX11_readsOn 260 = .ok (.putfield 79, 3) := by decide +kernel
theorem dX11_readsOn_263 : decode cX11_readsOn 263 = .ok (.return_, 1) := by decide +kernel
theorem dX11_readsOn_29 : decode cX11_readsOn 29 = .ok (.aload_n 0, 1) := by decide +kernel
theorem dX11_readsOn_30 : decode cX11_readsOn 30 = .ok (.getfield 79, 3) := by decide +kernel
theorem dX11_readsOn_33 : decode cX11_readsOn 33 = .ok (.iaload, 1) := by decide +kernel
theorem dX11_readsOn_34 : decode cX11_readsOn 34 = .ok (.bipush 10, 2) := by decide +kernel
theorem dX11_readsOn_36 : decode cX11_readsOn 36 = .ok (.if_icmp .ne 16, 3) := by decide +kernel
theorem dX11_readsOn_39 : decode cX11_readsOn 39 = .ok (.aload_n 0, 1) := by decide +kernel
theorem dX11_readsOn_4 : decode cX11_readsOn 4 = .ok (.aload_n 0, 1) := by decide +kernel
theorem dX11_readsOn_40 : decode cX11_readsOn 40 = .ok (.dup, 1) := by decide +kernel
theorem dX11_readsOn_41 : decode cX11_readsOn 41 = .ok (.getfield 79, 3) := by decide +kernel
theorem dX11_readsOn_44 : decode cX11_readsOn 44 = .ok (.iconst 1, 1) := by decide +kernel
theorem dX11_readsOn_45 : decode cX11_readsOn 45 = .ok (.iadd, 1) := by decide +kernel
theorem dX11_readsOn_46 : decode cX11_readsOn 46 = .ok (.putfield 79, 3) := by decide +kernel
theorem dX11_readsOn_49 : decode cX11_readsOn 49 = .ok (.goto (-49), 3) := by decide +kernel
theorem dX11_readsOn_5 : decode cX11_readsOn 5 = .ok (.getfield 76, 3) := by decide +kernel
theorem dX11_readsOn_52 : decode cX11_readsOn 52 = .ok (.aload_n 0, 1) := by decide +kernel
theorem dX11_readsOn_53 : decode cX11_readsOn 53 = .ok (.aload_n 0, 1) := by decide +kernel
theorem dX11_readsOn_54 : decode cX11_readsOn 54 = .ok (.getfield 79, 3) := by decide +kernel
theorem dX11_readsOn_57 : decode cX11_readsOn 57 = .ok (.putfield 82, 3) := by decide +kernel
theorem dX11_readsOn_60 : decode cX11_readsOn 60 = .ok (.aload_n 0, 1) := by decide +kernel
theorem dX11_readsOn_61 : decode cX11_readsOn 61 = .ok (.getfield 79, 3) := by decide +kernel
theorem dX11_readsOn_64 : decode cX11_readsOn 64 = .ok (.aload_n 0, 1) := by decide +kernel
theorem dX11_readsOn_65 : decode cX11_readsOn 65 = .ok (.getfield 76, 3) := by decide +kernel
theorem dX11_readsOn_68 : decode cX11_readsOn 68 = .ok (.if_icmp .lt 9, 3) := by decide +kernel
theorem dX11_readsOn_71 : decode cX11_readsOn 71 = .ok (.aload_n 0, 1) := by decide +kernel
theorem dX11_readsOn_72 : decode cX11_readsOn 72 = .ok (.iconst 0, 1) := by decide +kernel
theorem dX11_readsOn_73 : decode cX11_readsOn 73 = .ok (.putfield 85, 3) := by decide +kernel
theorem dX11_readsOn_76 : decode cX11_readsOn 76 = .ok (.return_, 1) := by decide +kernel
theorem dX11_readsOn_77 : decode cX11_readsOn 77 = .ok (.aload_n 0, 1) := by decide +kernel
theorem dX11_readsOn_78 : decode cX11_readsOn 78 = .ok (.getfield 23, 3) := by decide +kernel
theorem dX11_readsOn_8 : decode cX11_readsOn 8 = .ok (.if_icmp .ge 44, 3) := by decide +kernel
theorem dX11_readsOn_81 : decode cX11_readsOn 81 = .ok (.aload_n 0, 1) := by decide +kernel
theorem dX11_readsOn_82 : decode cX11_readsOn 82 = .ok (.getfield 79, 3) := by decide +kernel
theorem dX11_readsOn_85 : decode cX11_readsOn 85 = .ok (.iaload, 1) := by decide +kernel
theorem dX11_readsOn_86 : decode cX11_readsOn 86 = .ok (.istore_n 1, 1) := by decide +kernel
theorem dX11_readsOn_87 : decode cX11_readsOn 87 = .ok (.iload_n 1, 1) := by decide +kernel
theorem dX11_readsOn_88 : decode cX11_readsOn 88 = .ok (.invokestatic 88, 3) := by decide +kernel
theorem dX11_readsOn_91 : decode cX11_readsOn 91 = .ok (.ifCond .eq 38, 3) := by decide +kernel
theorem dX11_readsOn_94 : decode cX11_readsOn 94 = .ok (.aload_n 0, 1) := by decide +kernel
theorem dX11_readsOn_95 : decode cX11_readsOn 95 = .ok (.aload_n 0, 1) := by decide +kernel
theorem dX11_readsOn_96 : decode cX11_readsOn 96 = .ok (.getfield 79, 3) := by decide +kernel
theorem dX11_readsOn_99 : decode cX11_readsOn 99 = .ok (.invokevirtual 92, 3) := by decide +kernel
theorem dX11_took_0 : decode cX11_took 0 = .ok (.aload_n 0, 1) := by decide +kernel
theorem dX11_took_1 : decode cX11_took 1 = .ok (.aload_n 1, 1) := by decide +kernel
theorem dX11_took_10 : decode cX11_took 10 = .ok (.aload_n 0, 1) := by decide +kernel
theorem dX11_took_11 : decode cX11_took 11 = .ok (.invokevirtual 124, 3) := by decide +kernel
theorem dX11_took_14 : decode cX11_took 14 = .ok (.iload_n 2, 1) := by decide +kernel
theorem dX11_took_15 : decode cX11_took 15 = .ok (.ireturn, 1) := by decide +kernel
theorem dX11_took_2 : decode cX11_took 2 = .ok (.invokevirtual 120, 3) := by decide +kernel
theorem dX11_took_5 : decode cX11_took 5 = .ok (.istore_n 2, 1) := by decide +kernel
theorem dX11_took_6 : decode cX11_took 6 = .ok (.iload_n 2, 1) := by decide +kernel
theorem dX11_took_7 : decode cX11_took 7 = .ok (.ifCond .eq 7, 3) := by decide +kernel
theorem dX11_undo_0 : decode cX11_undo 0 = .ok (.aload_n 0, 1) := by decide +kernel
theorem dX11_undo_1 : decode cX11_undo 1 = .ok (.iconst 0, 1) := by decide +kernel
theorem dX11_undo_11 : decode cX11_undo 11 = .ok (.invokestatic 131, 3) := by decide +kernel
theorem dX11_undo_14 : decode cX11_undo 14 = .ok (.ifCond .eq 14, 3) := by decide +kernel
theorem dX11_undo_17 : decode cX11_undo 17 = .ok (.iload_n 1, 1) := by decide +kernel
theorem dX11_undo_18 : decode cX11_undo 18 = .ok (.aload_n 0, 1) := by decide +kernel
theorem dX11_undo_19 : decode cX11_undo 19 = .ok (.getfield 9, 3) := by decide +kernel
theorem dX11_undo_2 : decode cX11_undo 2 = .ok (.putfield 70, 3) := by decide +kernel
theorem dX11_undo_22 : decode cX11_undo 22 = .ok (.bipush 7, 2) := by decide +kernel
theorem dX11_undo_24 : decode cX11_undo 24 = .ok (.iaload, 1) := by decide +kernel
theorem dX11_undo_25 : decode cX11_undo 25 = .ok (.if_icmp .le 9, 3) := by decide +kernel
theorem dX11_undo_28 : decode cX11_undo 28 = .ok (.aload_n 0, 1) := by decide +kernel
theorem dX11_undo_29 : decode cX11_undo 29 = .ok (.iconst 1, 1) := by decide +kernel
theorem dX11_undo_30 : decode cX11_undo 30 = .ok (.invokevirtual 269, 3) := by decide +kernel
theorem dX11_undo_33 : decode cX11_undo 33 = .ok (.ireturn, 1) := by decide +kernel
theorem dX11_undo_34 : decode cX11_undo 34 = .ok (.aload_n 0, 1) := by decide +kernel
theorem dX11_undo_35 : decode cX11_undo 35 = .ok (.getfield 9, 3) := by decide +kernel
theorem dX11_undo_38 : decode cX11_undo 38 = .ok (.bipush 7, 2) := by decide +kernel
theorem dX11_undo_40 : decode cX11_undo 40 = .ok (.dup2, 1) := by decide +kernel
theorem dX11_undo_41 : decode cX11_undo 41 = .ok (.iaload, 1) := by decide +kernel
theorem dX11_undo_42 : decode cX11_undo 42 = .ok (.iload_n 1, 1) := by decide +kernel
theorem dX11_undo_43 : decode cX11_undo 43 = .ok (.isub, 1) := by decide +kernel
theorem dX11_undo_44 : decode cX11_undo 44 = .ok (.iastore, 1) := by decide +kernel
theorem dX11_undo_45 : decode cX11_undo 45 = .ok (.iconst 0, 1) := by decide +kernel
theorem dX11_undo_46 : decode cX11_undo 46 = .ok (.istore_n 2, 1) := by decide +kernel
theorem dX11_undo_47 : decode cX11_undo 47 = .ok (.iload_n 2, 1) := by decide +kernel
theorem dX11_undo_48 : decode cX11_undo 48 = .ok (.bipush 37, 2) := by decide +kernel
theorem dX11_undo_5 : decode cX11_undo 5 = .ok (.iload_n 1, 1) := by decide +kernel
theorem dX11_undo_50 : decode cX11_undo 50 = .ok (.if_icmp .ge 38, 3) := by decide +kernel
theorem dX11_undo_53 : decode cX11_undo 53 = .ok (.aload_n 0, 1) := by decide +kernel
theorem dX11_undo_54 : decode cX11_undo 54 = .ok (.getfield 9, 3) := by decide +kernel
theorem dX11_undo_57 : decode cX11_undo 57 = .ok (.bipush 8, 2) := by decide +kernel
theorem dX11_undo_59 : decode cX11_undo 59 = .ok (.iload_n 2, 1) := by decide +kernel
theorem dX11_undo_6 : decode cX11_undo 6 = .ok (.i2l, 1) := by decide +kernel
theorem dX11_undo_60 : decode cX11_undo 60 = .ok (.iadd, 1) := by decide +kernel
theorem dX11_undo_61 : decode cX11_undo 61 = .ok (.aload_n 0, 1) := by decide +kernel
theorem dX11_undo_62 : decode cX11_undo 62 = .ok (.getfield 9, 3) := by decide +kernel
theorem dX11_undo_65 : decode cX11_undo 65 = .ok (.bipush 89, 2) := by decide +kernel
theorem dX11_undo_67 : decode cX11_undo 67 = .ok (.bipush 37, 2) := by decide +kernel
theorem dX11_undo_69 : decode cX11_undo 69 = .ok (.aload_n 0, 1) := by decide +kernel
theorem dX11_undo_7 : decode cX11_undo 7 = .ok (.lconst 1, 1) := by decide +kernel
theorem dX11_undo_70 : decode cX11_undo 70 = .ok (.getfield 9, 3) := by decide +kernel
theorem dX11_undo_73 : decode cX11_undo 73 = .ok (.bipush 7, 2) := by decide +kernel
theorem dX11_undo_75 : decode cX11_undo 75 = .ok (.iaload, 1) := by decide +kernel
theorem dX11_undo_76 : decode cX11_undo 76 = .ok (.imul, 1) := by decide +kernel
theorem dX11_undo_77 : decode cX11_undo 77 = .ok (.iadd, 1) := by decide +kernel
theorem dX11_undo_78 : decode cX11_undo 78 = .ok (.iload_n 2, 1) := by decide +kernel
theorem dX11_undo_79 : decode cX11_undo 79 = .ok (.iadd, 1) := by decide +kernel
theorem dX11_undo_8 : decode cX11_undo 8 = .ok (.ldc2_w 403, 3) := by decide +kernel
theorem dX11_undo_80 : decode cX11_undo 80 = .ok (.iaload, 1) := by decide +kernel
theorem dX11_undo_81 : decode cX11_undo 81 = .ok (.iastore, 1) := by decide +kernel
theorem dX11_undo_82 : decode cX11_undo 82 = .ok (.iinc 2 1, 3) := by decide +kernel
theorem dX11_undo_85 : decode cX11_undo 85 = .ok (.goto (-38), 3) := by decide +kernel
theorem dX11_undo_88 : decode cX11_undo 88 = .ok (.aload_n 0, 1) := by decide +kernel
theorem dX11_undo_89 : decode cX11_undo 89 = .ok (.getfield 9, 3) := by decide +kernel
theorem dX11_undo_92 : decode cX11_undo 92 = .ok (.bipush 7, 2) := by decide +kernel
theorem dX11_undo_94 : decode cX11_undo 94 = .ok (.iaload, 1) := by decide +kernel
theorem dX11_undo_95 : decode cX11_undo 95 = .ok (.ireturn, 1) := by decide +kernel
