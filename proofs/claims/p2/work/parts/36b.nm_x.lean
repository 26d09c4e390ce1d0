theorem dJ0_charAt_5068e_0 : decode cJ0_charAt_5068e 0 = .ok (.aload_n 0, 1) := by decide +kernel
theorem dJ0_charAt_5068e_1 : decode cJ0_charAt_5068e 1 = .ok (.invokevirtual 492, 3) := by decide +kernel
theorem dJ0_charAt_5068e_11 : decode cJ0_charAt_5068e 11 = .ok (.iload_n 1, 1) := by decide +kernel
theorem dJ0_charAt_5068e_12 : decode cJ0_charAt_5068e 12 = .ok (.invokestatic 495, 3) := by decide +kernel
theorem dJ0_charAt_5068e_15 : decode cJ0_charAt_5068e 15 = .ok (.ireturn, 1) := by decide +kernel
theorem dJ0_charAt_5068e_4 : decode cJ0_charAt_5068e 4 = .ok (.ifCond .eq 12, 3) := by decide +kernel
theorem dJ0_charAt_5068e_7 : decode cJ0_charAt_5068e 7 = .ok (.aload_n 0, 1) := by decide +kernel
theorem dJ0_charAt_5068e_8 : decode cJ0_charAt_5068e 8 = .ok (.getfield 9, 3) := by decide +kernel
theorem dJ0_checkIndex_df160_0 : decode cJ0_checkIndex_df160 0 = .ok (.iload_n 0, 1) := by decide +kernel
theorem dJ0_checkIndex_df160_1 : decode cJ0_checkIndex_df160 1 = .ok (.iload_n 1, 1) := by decide +kernel
theorem dJ0_checkIndex_df160_2 : decode cJ0_checkIndex_df160 2 = .ok (.getstatic 1053, 3) := by decide +kernel
theorem dJ0_checkIndex_df160_5 : decode cJ0_checkIndex_df160 5 = .ok (.invokestatic 1059, 3) := by decide +kernel
theorem dJ0_checkIndex_df160_8 : decode cJ0_checkIndex_df160 8 = .ok (.pop, 1) := by decide +kernel
theorem dJ0_checkIndex_df160_9 : decode cJ0_checkIndex_df160 9 = .ok (.return_, 1) := by decide +kernel
theorem dJ0_coder_7d493_0 : decode cJ0_coder_7d493 0 = .ok (.getstatic 38, 3) := by decide +kernel
theorem dJ0_coder_7d493_10 : decode cJ0_coder_7d493 10 = .ok (.goto 4, 3) := by decide +kernel
theorem dJ0_coder_7d493_14 : decode cJ0_coder_7d493 14 = .ok (.ireturn, 1) := by decide +kernel
theorem dJ0_coder_7d493_3 : decode cJ0_coder_7d493 3 = .ok (.ifCond .eq 10, 3) := by decide +kernel
theorem dJ0_coder_7d493_6 : decode cJ0_coder_7d493 6 = .ok (.aload_n 0, 1) := by decide +kernel
theorem dJ0_coder_7d493_7 : decode cJ0_coder_7d493 7 = .ok (.getfield 15, 3) := by decide +kernel
theorem dJ0_indexOf_0f7a4_0 : decode cJ0_indexOf_0f7a4 0 = .ok (.aload_n 0, 1) := by decide +kernel
theorem dJ0_indexOf_0f7a4_1 : decode cJ0_indexOf_0f7a4 1 = .ok (.iload_n 1, 1) := by decide +kernel
theorem dJ0_indexOf_0f7a4_2 : decode cJ0_indexOf_0f7a4 2 = .ok (.iconst 0, 1) := by decide +kernel
theorem dJ0_indexOf_0f7a4_3 : decode cJ0_indexOf_0f7a4 3 = .ok (.invokevirtual 633, 3) := by decide +kernel
theorem dJ0_indexOf_0f7a4_6 : decode cJ0_indexOf_0f7a4 6 = .ok (.ireturn, 1) := by decide +kernel
theorem dJ0_indexOf_7cf53_0 : decode cJ0_indexOf_7cf53 0 = .ok (.aload_n 0, 1) := by decide +kernel
theorem dJ0_indexOf_7cf53_1 : decode cJ0_indexOf_7cf53 1 = .ok (.invokevirtual 492, 3) := by decide +kernel
theorem dJ0_indexOf_7cf53_11 : decode cJ0_indexOf_7cf53 11 = .ok (.iload_n 1, 1) := by decide +kernel
theorem dJ0_indexOf_7cf53_12 : decode cJ0_indexOf_7cf53 12 = .ok (.iload_n 2, 1) := by decide +kernel
theorem dJ0_indexOf_7cf53_13 : decode cJ0_indexOf_7cf53 13 = .ok (.aload_n 0, 1) := by decide +kernel
theorem dJ0_indexOf_7cf53_14 : decode cJ0_indexOf_7cf53 14 = .ok (.invokevirtual 505, 3) := by decide +kernel
theorem dJ0_indexOf_7cf53_17 : decode cJ0_indexOf_7cf53 17 = .ok (.invokestatic 637, 3) := by decide +kernel
theorem dJ0_indexOf_7cf53_20 : decode cJ0_indexOf_7cf53 20 = .ok (.goto 16, 3) := by decide +kernel
theorem dJ0_indexOf_7cf53_36 : decode cJ0_indexOf_7cf53 36 = .ok (.ireturn, 1) := by decide +kernel
theorem dJ0_indexOf_7cf53_4 : decode cJ0_indexOf_7cf53 4 = .ok (.ifCond .eq 19, 3) := by decide +kernel
theorem dJ0_indexOf_7cf53_7 : decode cJ0_indexOf_7cf53 7 = .ok (.aload_n 0, 1) := by decide +kernel
theorem dJ0_indexOf_7cf53_8 : decode cJ0_indexOf_7cf53 8 = .ok (.getfield 9, 3) := by decide +kernel
theorem dJ0_isLatin1_aae02_0 : decode cJ0_isLatin1_aae02 0 = .ok (.getstatic 38, 3) := by decide +kernel
theorem dJ0_isLatin1_aae02_10 : decode cJ0_isLatin1_aae02 10 = .ok (.ifCond .ne 7, 3) := by decide +kernel
theorem dJ0_isLatin1_aae02_13 : decode cJ0_isLatin1_aae02 13 = .ok (.iconst 1, 1) := by decide +kernel
theorem dJ0_isLatin1_aae02_14 : decode cJ0_isLatin1_aae02 14 = .ok (.goto 4, 3) := by decide +kernel
theorem dJ0_isLatin1_aae02_18 : decode cJ0_isLatin1_aae02 18 = .ok (.ireturn, 1) := by decide +kernel
theorem dJ0_isLatin1_aae02_3 : decode cJ0_isLatin1_aae02 3 = .ok (.ifCond .eq 14, 3) := by decide +kernel
theorem dJ0_isLatin1_aae02_6 : decode cJ0_isLatin1_aae02 6 = .ok (.aload_n 0, 1) := by decide +kernel
theorem dJ0_isLatin1_aae02_7 : decode cJ0_isLatin1_aae02 7 = .ok (.getfield 15, 3) := by decide +kernel
theorem dJ0_length_8abf5_0 : decode cJ0_length_8abf5 0 = .ok (.aload_n 0, 1) := by decide +kernel
theorem dJ0_length_8abf5_1 : decode cJ0_length_8abf5 1 = .ok (.getfield 9, 3) := by decide +kernel
theorem dJ0_length_8abf5_10 : decode cJ0_length_8abf5 10 = .ok (.ireturn, 1) := by decide +kernel
theorem dJ0_length_8abf5_4 : decode cJ0_length_8abf5 4 = .ok (.arraylength, 1) := by decide +kernel
theorem dJ0_length_8abf5_5 : decode cJ0_length_8abf5 5 = .ok (.aload_n 0, 1) := by decide +kernel
theorem dJ0_length_8abf5_6 : decode cJ0_length_8abf5 6 = .ok (.invokevirtual 335, 3) := by decide +kernel
theorem dJ0_length_8abf5_9 : decode cJ0_length_8abf5 9 = .ok (.ishr, 1) := by decide +kernel
theorem dJ1_canEncode_9a6ad_0 : decode cJ1_canEncode_9a6ad 0 = .ok (.iload_n 0, 1) := by decide +kernel
theorem dJ1_canEncode_9a6ad_1 : decode cJ1_canEncode_9a6ad 1 = .ok (.ifCond .lt 14, 3) := by decide +kernel
theorem dJ1_canEncode_9a6ad_11 : decode cJ1_canEncode_9a6ad 11 = .ok (.iconst 1, 1) := by decide +kernel
theorem dJ1_canEncode_9a6ad_12 : decode cJ1_canEncode_9a6ad 12 = .ok (.goto 4, 3) := by decide +kernel
theorem dJ1_canEncode_9a6ad_15 : decode cJ1_canEncode_9a6ad 15 = .ok (.iconst 0, 1) := by decide +kernel
theorem dJ1_canEncode_9a6ad_16 : decode cJ1_canEncode_9a6ad 16 = .ok (.ireturn, 1) := by decide +kernel
theorem dJ1_canEncode_9a6ad_4 : decode cJ1_canEncode_9a6ad 4 = .ok (.iload_n 0, 1) := by decide +kernel
theorem dJ1_canEncode_9a6ad_5 : decode cJ1_canEncode_9a6ad 5 = .ok (.sipush 255, 3) := by decide +kernel
theorem dJ1_canEncode_9a6ad_8 : decode cJ1_canEncode_9a6ad 8 = .ok (.if_icmp .gt 7, 3) := by decide +kernel
theorem dJ1_charAt_3b067_0 : decode cJ1_charAt_3b067 0 = .ok (.iload_n 1, 1) := by decide +kernel
theorem dJ1_charAt_3b067_1 : decode cJ1_charAt_3b067 1 = .ok (.aload_n 0, 1) := by decide +kernel
theorem dJ1_charAt_3b067_12 : decode cJ1_charAt_3b067 12 = .ok (.iand, 1) := by decide +kernel
theorem dJ1_charAt_3b067_13 : decode cJ1_charAt_3b067 13 = .ok (.i2c, 1) := by decide +kernel
theorem dJ1_charAt_3b067_14 : decode cJ1_charAt_3b067 14 = .ok (.ireturn, 1) := by decide +kernel
theorem dJ1_charAt_3b067_2 : decode cJ1_charAt_3b067 2 = .ok (.arraylength, 1) := by decide +kernel
theorem dJ1_charAt_3b067_3 : decode cJ1_charAt_3b067 3 = .ok (.invokestatic 9, 3) := by decide +kernel
theorem dJ1_charAt_3b067_6 : decode cJ1_charAt_3b067 6 = .ok (.aload_n 0, 1) := by decide +kernel
theorem dJ1_charAt_3b067_7 : decode cJ1_charAt_3b067 7 = .ok (.iload_n 1, 1) := by decide +kernel
theorem dJ1_charAt_3b067_8 : decode cJ1_charAt_3b067 8 = .ok (.baload, 1) := by decide +kernel
theorem dJ1_charAt_3b067_9 : decode cJ1_charAt_3b067 9 = .ok (.sipush 255, 3) := by decide +kernel
theorem dJ1_indexOfChar_4cfef_0 : decode cJ1_indexOfChar_4cfef 0 = .ok (.iload_n 1, 1) := by decide +kernel
theorem dJ1_indexOfChar_4cfef_1 : decode cJ1_indexOfChar_4cfef 1 = .ok (.i2b, 1) := by decide +kernel
theorem dJ1_indexOfChar_4cfef_10 : decode cJ1_indexOfChar_4cfef 10 = .ok (.if_icmp .ge 21, 3) := by decide +kernel
theorem dJ1_indexOfChar_4cfef_13 : decode cJ1_indexOfChar_4cfef 13 = .ok (.aload_n 0, 1) := by decide +kernel
theorem dJ1_indexOfChar_4cfef_14 : decode cJ1_indexOfChar_4cfef 14 = .ok (.iload 5, 2) := by decide +kernel
theorem dJ1_indexOfChar_4cfef_16 : decode cJ1_indexOfChar_4cfef 16 = .ok (.baload, 1) := by decide +kernel
theorem dJ1_indexOfChar_4cfef_17 : decode cJ1_indexOfChar_4cfef 17 = .ok (.iload 4, 2) := by decide +kernel
theorem dJ1_indexOfChar_4cfef_19 : decode cJ1_indexOfChar_4cfef 19 = .ok (.if_icmp .ne 6, 3) := by decide +kernel
theorem dJ1_indexOfChar_4cfef_2 : decode cJ1_indexOfChar_4cfef 2 = .ok (.istore 4, 2) := by decide +kernel
theorem dJ1_indexOfChar_4cfef_22 : decode cJ1_indexOfChar_4cfef 22 = .ok (.iload 5, 2) := by decide +kernel
theorem dJ1_indexOfChar_4cfef_24 : decode cJ1_indexOfChar_4cfef 24 = .ok (.ireturn, 1) := by decide +kernel
theorem dJ1_indexOfChar_4cfef_25 : decode cJ1_indexOfChar_4cfef 25 = .ok (.iinc 5 1, 3) := by decide +kernel
theorem dJ1_indexOfChar_4cfef_28 : decode cJ1_indexOfChar_4cfef 28 = .ok (.goto (-21), 3) := by decide +kernel
theorem dJ1_indexOfChar_4cfef_31 : decode cJ1_indexOfChar_4cfef 31 = .ok (.iconst (-1), 1) := by decide +kernel
theorem dJ1_indexOfChar_4cfef_32 : decode cJ1_indexOfChar_4cfef 32 = .ok (.ireturn, 1) := by decide +kernel
theorem dJ1_indexOfChar_4cfef_4 : decode cJ1_indexOfChar_4cfef 4 = .ok (.iload_n 2, 1) := by decide +kernel
theorem dJ1_indexOfChar_4cfef_5 : decode cJ1_indexOfChar_4cfef 5 = .ok (.istore 5, 2) := by decide +kernel
theorem dJ1_indexOfChar_4cfef_7 : decode cJ1_indexOfChar_4cfef 7 = .ok (.iload 5, 2) := by decide +kernel
theorem dJ1_indexOfChar_4cfef_9 : decode cJ1_indexOfChar_4cfef 9 = .ok (.iload_n 3, 1) := by decide +kernel
theorem dJ1_indexOf_4cfef_0 : decode cJ1_indexOf_4cfef 0 = .ok (.iload_n 1, 1) := by decide +kernel
theorem dJ1_indexOf_4cfef_1 : decode cJ1_indexOf_4cfef 1 = .ok (.invokestatic 88, 3) := by decide +kernel
theorem dJ1_indexOf_4cfef_10 : decode cJ1_indexOf_4cfef 10 = .ok (.iconst 0, 1) := by decide +kernel
theorem dJ1_indexOf_4cfef_11 : decode cJ1_indexOf_4cfef 11 = .ok (.invokestatic 92, 3) := by decide +kernel
theorem dJ1_indexOf_4cfef_14 : decode cJ1_indexOf_4cfef 14 = .ok (.istore_n 2, 1) := by decide +kernel
theorem dJ1_indexOf_4cfef_15 : decode cJ1_indexOf_4cfef 15 = .ok (.iload_n 3, 1) := by decide +kernel
theorem dJ1_indexOf_4cfef_16 : decode cJ1_indexOf_4cfef 16 = .ok (.aload_n 0, 1) := by decide +kernel
theorem dJ1_indexOf_4cfef_17 : decode cJ1_indexOf_4cfef 17 = .ok (.arraylength, 1) := by decide +kernel
theorem dJ1_indexOf_4cfef_18 : decode cJ1_indexOf_4cfef 18 = .ok (.invokestatic 38, 3) := by decide +kernel
theorem dJ1_indexOf_4cfef_21 : decode cJ1_indexOf_4cfef 21 = .ok (.istore_n 3, 1) := by decide +kernel
theorem dJ1_indexOf_4cfef_22 : decode cJ1_indexOf_4cfef 22 = .ok (.iload_n 2, 1) := by decide +kernel
theorem dJ1_indexOf_4cfef_23 : decode cJ1_indexOf_4cfef 23 = .ok (.iload_n 3, 1) := by decide +kernel
theorem dJ1_indexOf_4cfef_24 : decode cJ1_indexOf_4cfef 24 = .ok (.if_icmp .lt 5, 3) := by decide +kernel
theorem dJ1_indexOf_4cfef_27 : decode cJ1_indexOf_4cfef 27 = .ok (.iconst (-1), 1) := by decide +kernel
theorem dJ1_indexOf_4cfef_28 : decode cJ1_indexOf_4cfef 28 = .ok (.ireturn, 1) := by decide +kernel
theorem dJ1_indexOf_4cfef_29 : decode cJ1_indexOf_4cfef 29 = .ok (.aload_n 0, 1) := by decide +kernel
theorem dJ1_indexOf_4cfef_30 : decode cJ1_indexOf_4cfef 30 = .ok (.iload_n 1, 1) := by decide +kernel
theorem dJ1_indexOf_4cfef_31 : decode cJ1_indexOf_4cfef 31 = .ok (.iload_n 2, 1) := by decide +kernel
theorem dJ1_indexOf_4cfef_32 : decode cJ1_indexOf_4cfef 32 = .ok (.iload_n 3, 1) := by decide +kernel
theorem dJ1_indexOf_4cfef_33 : decode cJ1_indexOf_4cfef 33 = .ok (.invokestatic 95, 3) := by decide +kernel
theorem dJ1_indexOf_4cfef_36 : decode cJ1_indexOf_4cfef 36 = .ok (.ireturn, 1) := by decide +kernel
theorem dJ1_indexOf_4cfef_4 : decode cJ1_indexOf_4cfef 4 = .ok (.ifCond .ne 5, 3) := by decide +kernel
theorem dJ1_indexOf_4cfef_7 : decode cJ1_indexOf_4cfef 7 = .ok (.iconst (-1), 1) := by decide +kernel
theorem dJ1_indexOf_4cfef_8 : decode cJ1_indexOf_4cfef 8 = .ok (.ireturn, 1) := by decide +kernel
theorem dJ1_indexOf_4cfef_9 : decode cJ1_indexOf_4cfef 9 = .ok (.iload_n 2, 1) := by decide +kernel
theorem dJ3_checkIndex_8e157_0 : decode cJ3_checkIndex_8e157 0 = .ok (.iload_n 0, 1) := by decide +kernel
theorem dJ3_checkIndex_8e157_1 : decode cJ3_checkIndex_8e157 1 = .ok (.ifCond .lt 8, 3) := by decide +kernel
theorem dJ3_checkIndex_8e157_16 : decode cJ3_checkIndex_8e157 16 = .ok (.iload_n 0, 1) := by decide +kernel
theorem dJ3_checkIndex_8e157_17 : decode cJ3_checkIndex_8e157 17 = .ok (.ireturn, 1) := by decide +kernel
theorem dJ3_checkIndex_8e157_4 : decode cJ3_checkIndex_8e157 4 = .ok (.iload_n 0, 1) := by decide +kernel
theorem dJ3_checkIndex_8e157_5 : decode cJ3_checkIndex_8e157 5 = .ok (.iload_n 1, 1) := by decide +kernel
theorem dJ3_checkIndex_8e157_6 : decode cJ3_checkIndex_8e157 6 = .ok (.if_icmp .lt 10, 3) := by decide +kernel
theorem dX0_init_0 : decode cX0_init 0 = .ok (.aload_n 0, 1) := by decide +kernel
theorem dX0_init_1 : decode cX0_init 1 = .ok (.invokespecial 3, 3) := by decide +kernel
theorem dX0_init_10 : decode cX0_init 10 = .ok (.iconst 1, 1) := by decide +kernel
theorem dX0_init_11 : decode cX0_init 11 = .ok (.putfield 15, 3) := by decide +kernel
theorem dX0_init_14 : decode cX0_init 14 = .ok (.aload_n 0, 1) := by decide +kernel
theorem dX0_init_15 : decode cX0_init 15 = .ok (.bipush 8, 2) := by decide +kernel
theorem dX0_init_17 : decode cX0_init 17 = .ok (.newarray .int, 2) := by decide +kernel
theorem dX0_init_19 : decode cX0_init 19 = .ok (.putfield 18, 3) := by decide +kernel
theorem dX0_init_22 : decode cX0_init 22 = .ok (.aload_n 0, 1) := by decide +kernel
theorem dX0_init_23 : decode cX0_init 23 = .ok (.bipush 32, 2) := by decide +kernel
theorem dX0_init_25 : decode cX0_init 25 = .ok (.newarray .int, 2) := by decide +kernel
theorem dX0_init_27 : decode cX0_init 27 = .ok (.putfield 22, 3) := by decide +kernel
theorem dX0_init_30 : decode cX0_init 30 = .ok (.aload_n 0, 1) := by decide +kernel
theorem dX0_init_31 : decode cX0_init 31 = .ok (.iconst 4, 1) := by decide +kernel
theorem dX0_init_32 : decode cX0_init 32 = .ok (.newarray .int, 2) := by decide +kernel
theorem dX0_init_34 : decode cX0_init 34 = .ok (.putfield 25, 3) := by decide +kernel
theorem dX0_init_37 : decode cX0_init 37 = .ok (.return_, 1) := by decide +kernel
theorem dX0_init_4 : decode cX0_init 4 = .ok (.aload_n 0, 1) := by decide +kernel
theorem dX0_init_5 : decode cX0_init 5 = .ok (.iconst 1, 1) := by decide +kernel
theorem dX0_init_6 : decode cX0_init 6 = .ok (.putfield 9, 3) := by decide +kernel
theorem dX0_init_9 : decode cX0_init 9 = .ok (.aload_n 0, 1) := by decide +kernel
theorem dX4_init_0 : decode cX4_init 0 = .ok (.aload_n 0, 1) := by decide +kernel
theorem dX4_init_1 : decode cX4_init 1 = .ok (.invokespecial 1, 3) := by decide +kernel
theorem dX4_init_12 : decode cX4_init 12 = .ok (.aload_n 0, 1) := by decide +kernel
theorem dX4_init_13 : decode cX4_init 13 = .ok (.bipush 32, 2) := by decide +kernel
theorem dX4_init_15 : decode cX4_init 15 = .ok (.newarray .int, 2) := by decide +kernel
theorem dX4_init_17 : decode cX4_init 17 = .ok (.putfield 13, 3) := by decide +kernel
theorem dX4_init_20 : decode cX4_init 20 = .ok (.aload_n 0, 1) := by decide +kernel
theorem dX4_init_21 : decode cX4_init 21 = .ok (.iconst 0, 1) := by decide +kernel
theorem dX4_init_22 : decode cX4_init 22 = .ok (.iload_n 2, 1) := by decide +kernel
theorem dX4_init_23 : decode cX4_init 23 = .ok (.aload_n 1, 1) := by decide +kernel
theorem dX4_init_24 : decode cX4_init 24 = .ok (.arraylength, 1) := by decide +kernel
theorem dX4_init_25 : decode cX4_init 25 = .ok (.invokestatic 16, 3) := by decide +kernel
theorem dX4_init_28 : decode cX4_init 28 = .ok (.invokestatic 22, 3) := by decide +kernel
theorem dX4_init_31 : decode cX4_init 31 = .ok (.newarray .int, 2) := by decide +kernel
theorem dX4_init_33 : decode cX4_init 33 = .ok (.putfield 25, 3) := by decide +kernel
theorem dX4_init_36 : decode cX4_init 36 = .ok (.aload_n 1, 1) := by decide +kernel
theorem dX4_init_37 : decode cX4_init 37 = .ok (.iconst 0, 1) := by decide +kernel
theorem dX4_init_38 : decode cX4_init 38 = .ok (.aload_n 0, 1) := by decide +kernel
theorem dX4_init_39 : decode cX4_init 39 = .ok (.getfield 25, 3) := by decide +kernel
theorem dX4_init_4 : decode cX4_init 4 = .ok (.aload_n 0, 1) := by decide +kernel
theorem dX4_init_42 : decode cX4_init 42 = .ok (.iconst 0, 1) := by decide +kernel
theorem dX4_init_43 : decode cX4_init 43 = .ok (.aload_n 0, 1) := by decide +kernel
theorem dX4_init_44 : decode cX4_init 44 = .ok (.getfield 25, 3) := by decide +kernel
theorem dX4_init_47 : decode cX4_init 47 = .ok (.arraylength, 1) := by decide +kernel
theorem dX4_init_48 : decode cX4_init 48 = .ok (.invokestatic 28, 3) := by decide +kernel
theorem dX4_init_5 : decode cX4_init 5 = .ok (.bipush 6, 2) := by decide +kernel
theorem dX4_init_51 : decode cX4_init 51 = .ok (.return_, 1) := by decide +kernel
theorem dX4_init_7 : decode cX4_init 7 = .ok (.newarray .int, 2) := by decide +kernel
theorem dX4_init_9 : decode cX4_init 9 = .ok (.putfield 9, 3) := by decide +kernel
theorem dX5_atom_0 : decode cX5_atom 0 = .ok (.aload_n 0, 1) := by decide +kernel
theorem dX5_atom_1 : decode cX5_atom 1 = .ok (.getfield 12, 3) := by decide +kernel
theorem dX5_atom_102 : decode cX5_atom 102 = .ok (.return_, 1) := by decide +kernel
theorem dX5_atom_12 : decode cX5_atom 12 = .ok (.aload_n 0, 1) := by decide +kernel
theorem dX5_atom_13 : decode cX5_atom 13 = .ok (.iload_n 1, 1) := by decide +kernel
theorem dX5_atom_14 : decode cX5_atom 14 = .ok (.invokevirtual 189, 3) := by decide +kernel
theorem dX5_atom_17 : decode cX5_atom 17 = .ok (.ifCond .ne 23, 3) := by decide +kernel
theorem dX5_atom_20 : decode cX5_atom 20 = .ok (.aload_n 0, 1) := by decide +kernel
theorem dX5_atom_21 : decode cX5_atom 21 = .ok (.getfield 12, 3) := by decide +kernel
theorem dX5_atom_24 : decode cX5_atom 24 = .ok (.invokevirtual 70, 3) := by decide +kernel
theorem dX5_atom_27 : decode cX5_atom 27 = .ok (.aload_n 0, 1) := by decide +kernel
theorem dX5_atom_28 : decode cX5_atom 28 = .ok (.iload_n 1, 1) := by decide +kernel
theorem dX5_atom_29 : decode cX5_atom 29 = .ok (.iconst 1, 1) := by decide +kernel
theorem dX5_atom_30 : decode cX5_atom 30 = .ok (.iadd, 1) := by decide +kernel
theorem dX5_atom_31 : decode cX5_atom 31 = .ok (.invokevirtual 165, 3) := by decide +kernel
theorem dX5_atom_34 : decode cX5_atom 34 = .ok (.aload_n 0, 1) := by decide +kernel
theorem dX5_atom_35 : decode cX5_atom 35 = .ok (.bipush 41, 2) := by decide +kernel
theorem dX5_atom_37 : decode cX5_atom 37 = .ok (.invokevirtual 99, 3) := by decide +kernel
theorem dX5_atom_4 : decode cX5_atom 4 = .ok (.getfield 55, 3) := by decide +kernel
theorem dX5_atom_40 : decode cX5_atom 40 = .ok (.return_, 1) := by decide +kernel
theorem dX5_atom_41 : decode cX5_atom 41 = .ok (.aload_n 0, 1) := by decide +kernel
theorem dX5_atom_42 : decode cX5_atom 42 = .ok (.getfield 12, 3) := by decide +kernel
theorem dX5_atom_45 : decode cX5_atom 45 = .ok (.invokevirtual 95, 3) := by decide +kernel
theorem dX5_atom_48 : decode cX5_atom 48 = .ok (.ifCond .eq 17, 3) := by decide +kernel
theorem dX5_atom_51 : decode cX5_atom 51 = .ok (.aload_n 0, 1) := by decide +kernel
theorem dX5_atom_52 : decode cX5_atom 52 = .ok (.getfield 12, 3) := by decide +kernel
theorem dX5_atom_55 : decode cX5_atom 55 = .ok (.getfield 55, 3) := by decide +kernel
theorem dX5_atom_58 : decode cX5_atom 58 = .ok (.sipush 1000, 3) := by decide +kernel
theorem dX5_atom_61 : decode cX5_atom 61 = .ok (.isub, 1) := by decide +kernel
theorem dX5_atom_62 : decode cX5_atom 62 = .ok (.goto 14, 3) := by decide +kernel
theorem dX5_atom_65 : decode cX5_atom 65 = .ok (.aload_n 0, 1) := by decide +kernel
theorem dX5_atom_66 : decode cX5_atom 66 = .ok (.aload_n 0, 1) := by decide +kernel
theorem dX5_atom_67 : decode cX5_atom 67 = .ok (.getfield 12, 3) := by decide +kernel
theorem dX5_atom_7 : decode cX5_atom 7 = .ok (.bipush 40, 2) := by decide +kernel
theorem dX5_atom_70 : decode cX5_atom 70 = .ok (.getfield 55, 3) := by decide +kernel
theorem dX5_atom_73 : decode cX5_atom 73 = .ok (.invokevirtual 199, 3) := by decide +kernel
theorem dX5_atom_76 : decode cX5_atom 76 = .ok (.istore_n 2, 1) := by decide +kernel
theorem dX5_atom_77 : decode cX5_atom 77 = .ok (.iload_n 2, 1) := by decide +kernel
theorem dX5_atom_78 : decode cX5_atom 78 = .ok (.iconst (-1), 1) := by decide +kernel
theorem dX5_atom_79 : decode cX5_atom 79 = .ok (.if_icmp .ne 11, 3) := by decide +kernel
theorem dX5_atom_82 : decode cX5_atom 82 = .ok (.aload_n 0, 1) := by decide +kernel
theorem dX5_atom_83 : decode cX5_atom 83 = .ok (.iconst 2, 1) := by decide +kernel
theorem dX5_atom_84 : decode cX5_atom 84 = .ok (.invokevirtual 80, 3) := by decide +kernel
theorem dX5_atom_87 : decode cX5_atom 87 = .ok (.goto 15, 3) := by decide +kernel
theorem dX5_atom_9 : decode cX5_atom 9 = .ok (.if_icmp .ne 32, 3) := by decide +kernel
theorem dX5_atom_90 : decode cX5_atom 90 = .ok (.aload_n 0, 1) := by decide +kernel
theorem dX5_atom_91 : decode cX5_atom 91 = .ok (.iload_n 2, 1) := by decide +kernel
theorem dX5_atom_92 : decode cX5_atom 92 = .ok (.invokevirtual 186, 3) := by decide +kernel
theorem dX5_atom_95 : decode cX5_atom 95 = .ok (.aload_n 0, 1) := by decide +kernel
theorem dX5_atom_96 : decode cX5_atom 96 = .ok (.getfield 12, 3) := by decide +kernel
theorem dX5_atom_99 : decode cX5_atom 99 = .ok (.invokevirtual 70, 3) := by decide +kernel
theorem dX5_comparison_0 : decode cX5_comparison 0 = .ok (.iload_n 0, 1) := by decide +kernel
theorem dX5_comparison_1 : decode cX5_comparison 1 = .ok (.tableswitch 39 60 62 #[31, 27, 35], 27) := by decide +kernel
theorem dX5_comparison_28 : decode cX5_comparison 28 = .ok (.sipush 2004, 3) := by decide +kernel
theorem dX5_comparison_31 : decode cX5_comparison 31 = .ok (.ireturn, 1) := by decide +kernel
theorem dX5_comparison_32 : decode cX5_comparison 32 = .ok (.sipush 2005, 3) := by decide +kernel
theorem dX5_comparison_35 : decode cX5_comparison 35 = .ok (.ireturn, 1) := by decide +kernel
theorem dX5_comparison_36 : decode cX5_comparison 36 = .ok (.sipush 2006, 3) := by decide +kernel
theorem dX5_comparison_39 : decode cX5_comparison 39 = .ok (.ireturn, 1) := by decide +kernel
theorem dX5_comparison_40 : decode cX5_comparison 40 = .ok (.iconst (-1), 1) := by decide +kernel
theorem dX5_comparison_41 : decode cX5_comparison 41 = .ok (.ireturn, 1) := by decide +kernel
theorem dX5_countFromHour_0 : decode cX5_countFromHour 0 = .ok (.iconst 0, 1) := by decide +kernel
theorem dX5_countFromHour_1 : decode cX5_countFromHour 1 = .ok (.istore_n 1, 1) := by decide +kernel
theorem dX5_countFromHour_10 : decode cX5_countFromHour 10 = .ok (.if_icmp .ge 89, 3) := by decide +kernel
theorem dX5_countFromHour_13 : decode cX5_countFromHour 13 = .ok (.aload_n 0, 1) := by decide +kernel
theorem dX5_countFromHour_14 : decode cX5_countFromHour 14 = .ok (.getfield 27, 3) := by decide +kernel
theorem dX5_countFromHour_17 : decode cX5_countFromHour 17 = .ok (.getfield 126, 3) := by decide +kernel
theorem dX5_countFromHour_2 : decode cX5_countFromHour 2 = .ok (.iload_n 1, 1) := by decide +kernel
theorem dX5_countFromHour_20 : decode cX5_countFromHour 20 = .ok (.iload_n 1, 1) := by decide +kernel
theorem dX5_countFromHour_21 : decode cX5_countFromHour 21 = .ok (.iaload, 1) := by decide +kernel
theorem dX5_countFromHour_22 : decode cX5_countFromHour 22 = .ok (.ifCond .ne 32, 3) := by decide +kernel
theorem dX5_countFromHour_25 : decode cX5_countFromHour 25 = .ok (.aload_n 0, 1) := by decide +kernel
theorem dX5_countFromHour_26 : decode cX5_countFromHour 26 = .ok (.getfield 27, 3) := by decide +kernel
theorem dX5_countFromHour_29 : decode cX5_countFromHour 29 = .ok (.getfield 129, 3) := by decide +kernel
theorem dX5_countFromHour_3 : decode cX5_countFromHour 3 = .ok (.aload_n 0, 1) := by decide +kernel
theorem dX5_countFromHour_32 : decode cX5_countFromHour 32 = .ok (.iload_n 1, 1) := by decide +kernel
theorem dX5_countFromHour_33 : decode cX5_countFromHour 33 = .ok (.aload_n 0, 1) := by decide +kernel
theorem dX5_countFromHour_34 : decode cX5_countFromHour 34 = .ok (.getfield 27, 3) := by decide +kernel
theorem dX5_countFromHour_37 : decode cX5_countFromHour 37 = .ok (.getfield 77, 3) := by decide +kernel
theorem dX5_countFromHour_4 : decode cX5_countFromHour 4 = .ok (.getfield 31, 3) := by decide +kernel
theorem dX5_countFromHour_40 : decode cX5_countFromHour 40 = .ok (.aload_n 0, 1) := by decide +kernel
theorem dX5_countFromHour_41 : decode cX5_countFromHour 41 = .ok (.getfield 27, 3) := by decide +kernel
theorem dX5_countFromHour_44 : decode cX5_countFromHour 44 = .ok (.getfield 129, 3) := by decide +kernel
theorem dX5_countFromHour_47 : decode cX5_countFromHour 47 = .ok (.iload_n 1, 1) := by decide +kernel
theorem dX5_countFromHour_48 : decode cX5_countFromHour 48 = .ok (.iaload, 1) := by decide +kernel
theorem dX5_countFromHour_49 : decode cX5_countFromHour 49 = .ok (.isub, 1) := by decide +kernel
theorem dX5_countFromHour_50 : decode cX5_countFromHour 50 = .ok (.iastore, 1) := by decide +kernel
theorem dX5_countFromHour_51 : decode cX5_countFromHour 51 = .ok (.goto 42, 3) := by decide +kernel
theorem dX5_countFromHour_54 : decode cX5_countFromHour 54 = .ok (.aload_n 0, 1) := by decide +kernel
theorem dX5_countFromHour_55 : decode cX5_countFromHour 55 = .ok (.getfield 27, 3) := by decide +kernel
theorem dX5_countFromHour_58 : decode cX5_countFromHour 58 = .ok (.getfield 126, 3) := by decide +kernel
theorem dX5_countFromHour_61 : decode cX5_countFromHour 61 = .ok (.iload_n 1, 1) := by decide +kernel
theorem dX5_countFromHour_62 : decode cX5_countFromHour 62 = .ok (.iaload, 1) := by decide +kernel
theorem dX5_countFromHour_63 : decode cX5_countFromHour 63 = .ok (.iconst 1, 1) := by decide +kernel
theorem dX5_countFromHour_64 : decode cX5_countFromHour 64 = .ok (.if_icmp .ne 29, 3) := by decide +kernel
theorem dX5_countFromHour_67 : decode cX5_countFromHour 67 = .ok (.aload_n 0, 1) := by decide +kernel
theorem dX5_countFromHour_68 : decode cX5_countFromHour 68 = .ok (.getfield 27, 3) := by decide +kernel
theorem dX5_countFromHour_7 : decode cX5_countFromHour 7 = .ok (.getfield 111, 3) := by decide +kernel
theorem dX5_countFromHour_71 : decode cX5_countFromHour 71 = .ok (.getfield 129, 3) := by decide +kernel
theorem dX5_countFromHour_74 : decode cX5_countFromHour 74 = .ok (.iload_n 1, 1) := by decide +kernel
theorem dX5_countFromHour_75 : decode cX5_countFromHour 75 = .ok (.aload_n 0, 1) := by decide +kernel
theorem dX5_countFromHour_76 : decode cX5_countFromHour 76 = .ok (.getfield 27, 3) := by decide +kernel
theorem dX5_countFromHour_79 : decode cX5_countFromHour 79 = .ok (.getfield 77, 3) := by decide +kernel
theorem dX5_countFromHour_82 : decode cX5_countFromHour 82 = .ok (.aload_n 0, 1) := by decide +kernel
theorem dX5_countFromHour_83 : decode cX5_countFromHour 83 = .ok (.getfield 27, 3) := by decide +kernel
theorem dX5_countFromHour_86 : decode cX5_countFromHour 86 = .ok (.getfield 129, 3) := by decide +kernel
theorem dX5_countFromHour_89 : decode cX5_countFromHour 89 = .ok (.iload_n 1, 1) := by decide +kernel
theorem dX5_countFromHour_90 : decode cX5_countFromHour 90 = .ok (.iaload, 1) := by decide +kernel
theorem dX5_countFromHour_91 : decode cX5_countFromHour 91 = .ok (.iadd, 1) := by decide +kernel
theorem dX5_countFromHour_92 : decode cX5_countFromHour 92 = .ok (.iastore, 1) := by decide +kernel
theorem dX5_countFromHour_93 : decode cX5_countFromHour 93 = .ok (.iinc 1 1, 3) := by decide +kernel
theorem dX5_countFromHour_96 : decode cX5_countFromHour 96 = .ok (.goto (-94), 3) := by decide +kernel
theorem dX5_countFromHour_99 : decode cX5_countFromHour 99 = .ok (.return_, 1) := by decide +kernel
theorem dX5_emit_0 : decode cX5_emit 0 = .ok (.aload_n 0, 1) := by decide +kernel
theorem dX5_emit_1 : decode cX5_emit 1 = .ok (.getfield 158, 3) := by decide +kernel
theorem dX5_emit_12 : decode cX5_emit 12 = .ok (.aload_n 0, 1) := by decide +kernel
theorem dX5_emit_13 : decode cX5_emit 13 = .ok (.getfield 18, 3) := by decide +kernel
theorem dX5_emit_16 : decode cX5_emit 16 = .ok (.aload_n 0, 1) := by decide +kernel
theorem dX5_emit_17 : decode cX5_emit 17 = .ok (.getfield 158, 3) := by decide +kernel
theorem dX5_emit_20 : decode cX5_emit 20 = .ok (.iload_n 1, 1) := by decide +kernel
theorem dX5_emit_21 : decode cX5_emit 21 = .ok (.iastore, 1) := by decide +kernel
theorem dX5_emit_22 : decode cX5_emit 22 = .ok (.aload_n 0, 1) := by decide +kernel
theorem dX5_emit_23 : decode cX5_emit 23 = .ok (.dup, 1) := by decide +kernel
theorem dX5_emit_24 : decode cX5_emit 24 = .ok (.getfield 158, 3) := by decide +kernel
theorem dX5_emit_27 : decode cX5_emit 27 = .ok (.iconst 1, 1) := by decide +kernel
theorem dX5_emit_28 : decode cX5_emit 28 = .ok (.iadd, 1) := by decide +kernel
theorem dX5_emit_29 : decode cX5_emit 29 = .ok (.putfield 158, 3) := by decide +kernel
theorem dX5_emit_32 : decode cX5_emit 32 = .ok (.return_, 1) := by decide +kernel
theorem dX5_emit_4 : decode cX5_emit 4 = .ok (.aload_n 0, 1) := by decide +kernel
theorem dX5_emit_5 : decode cX5_emit 5 = .ok (.getfield 18, 3) := by decide +kernel
theorem dX5_emit_8 : decode cX5_emit 8 = .ok (.arraylength, 1) := by decide +kernel
theorem dX5_emit_9 : decode cX5_emit 9 = .ok (.if_icmp .ge 23, 3) := by decide +kernel
theorem dX5_expect_0 : decode cX5_expect 0 = .ok (.aload_n 0, 1) := by decide +kernel
theorem dX5_expect_1 : decode cX5_expect 1 = .ok (.getfield 12, 3) := by decide +kernel
theorem dX5_expect_11 : decode cX5_expect 11 = .ok (.aload_n 0, 1) := by decide +kernel
theorem dX5_expect_12 : decode cX5_expect 12 = .ok (.getfield 12, 3) := by decide +kernel
theorem dX5_expect_15 : decode cX5_expect 15 = .ok (.invokevirtual 70, 3) := by decide +kernel
theorem dX5_expect_18 : decode cX5_expect 18 = .ok (.goto 8, 3) := by decide +kernel
theorem dX5_expect_21 : decode cX5_expect 21 = .ok (.aload_n 0, 1) := by decide +kernel
theorem dX5_expect_22 : decode cX5_expect 22 = .ok (.iconst 2, 1) := by decide +kernel
theorem dX5_expect_23 : decode cX5_expect 23 = .ok (.invokevirtual 80, 3) := by decide +kernel
theorem dX5_expect_26 : decode cX5_expect 26 = .ok (.return_, 1) := by decide +kernel
theorem dX5_expect_4 : decode cX5_expect 4 = .ok (.getfield 55, 3) := by decide +kernel
theorem dX5_expect_7 : decode cX5_expect 7 = .ok (.iload_n 1, 1) := by decide +kernel
theorem dX5_expect_8 : decode cX5_expect 8 = .ok (.if_icmp .ne 13, 3) := by decide +kernel
theorem dX5_fallLine_0 : decode cX5_fallLine 0 = .ok (.aload_n 0, 1) := by decide +kernel
theorem dX5_fallLine_1 : decode cX5_fallLine 1 = .ok (.sipush 200, 3) := by decide +kernel
theorem dX5_fallLine_11 : decode cX5_fallLine 11 = .ok (.aload_n 0, 1) := by decide +kernel
theorem dX5_fallLine_12 : decode cX5_fallLine 12 = .ok (.iconst 1, 1) := by decide +kernel
theorem dX5_fallLine_13 : decode cX5_fallLine 13 = .ok (.bipush 6, 2) := by decide +kernel
theorem dX5_fallLine_15 : decode cX5_fallLine 15 = .ok (.invokevirtual 73, 3) := by decide +kernel
theorem dX5_fallLine_18 : decode cX5_fallLine 18 = .ok (.putfield 105, 3) := by decide +kernel
theorem dX5_fallLine_21 : decode cX5_fallLine 21 = .ok (.aload_n 0, 1) := by decide +kernel
theorem dX5_fallLine_22 : decode cX5_fallLine 22 = .ok (.getfield 12, 3) := by decide +kernel
theorem dX5_fallLine_25 : decode cX5_fallLine 25 = .ok (.invokevirtual 70, 3) := by decide +kernel
theorem dX5_fallLine_28 : decode cX5_fallLine 28 = .ok (.aload_n 0, 1) := by decide +kernel
theorem dX5_fallLine_29 : decode cX5_fallLine 29 = .ok (.getfield 31, 3) := by decide +kernel
theorem dX5_fallLine_32 : decode cX5_fallLine 32 = .ok (.aload_n 0, 1) := by decide +kernel
theorem dX5_fallLine_33 : decode cX5_fallLine 33 = .ok (.iconst 1, 1) := by decide +kernel
theorem dX5_fallLine_34 : decode cX5_fallLine 34 = .ok (.bipush 9, 2) := by decide +kernel
theorem dX5_fallLine_36 : decode cX5_fallLine 36 = .ok (.invokevirtual 73, 3) := by decide +kernel
theorem dX5_fallLine_39 : decode cX5_fallLine 39 = .ok (.putfield 108, 3) := by decide +kernel
theorem dX5_fallLine_4 : decode cX5_fallLine 4 = .ok (.invokevirtual 99, 3) := by decide +kernel
theorem dX5_fallLine_42 : decode cX5_fallLine 42 = .ok (.aload_n 0, 1) := by decide +kernel
theorem dX5_fallLine_43 : decode cX5_fallLine 43 = .ok (.getfield 12, 3) := by decide +kernel
theorem dX5_fallLine_46 : decode cX5_fallLine 46 = .ok (.invokevirtual 70, 3) := by decide +kernel
theorem dX5_fallLine_49 : decode cX5_fallLine 49 = .ok (.aload_n 0, 1) := by decide +kernel
theorem dX5_fallLine_50 : decode cX5_fallLine 50 = .ok (.invokevirtual 84, 3) := by decide +kernel
theorem dX5_fallLine_53 : decode cX5_fallLine 53 = .ok (.return_, 1) := by decide +kernel
theorem dX5_fallLine_7 : decode cX5_fallLine 7 = .ok (.aload_n 0, 1) := by decide +kernel
theorem dX5_fallLine_8 : decode cX5_fallLine 8 = .ok (.getfield 31, 3) := by decide +kernel
theorem dX5_freesLine_0 : decode cX5_freesLine 0 = .ok (.aload_n 0, 1) := by decide +kernel
theorem dX5_freesLine_1 : decode cX5_freesLine 1 = .ok (.getfield 12, 3) := by decide +kernel
theorem dX5_freesLine_10 : decode cX5_freesLine 10 = .ok (.invokevirtual 99, 3) := by decide +kernel
theorem dX5_freesLine_13 : decode cX5_freesLine 13 = .ok (.aload_n 0, 1) := by decide +kernel
theorem dX5_freesLine_14 : decode cX5_freesLine 14 = .ok (.iconst 0, 1) := by decide +kernel
theorem dX5_freesLine_15 : decode cX5_freesLine 15 = .ok (.putfield 158, 3) := by decide +kernel
theorem dX5_freesLine_18 : decode cX5_freesLine 18 = .ok (.aload_n 0, 1) := by decide +kernel
theorem dX5_freesLine_19 : decode cX5_freesLine 19 = .ok (.iconst 0, 1) := by decide +kernel
theorem dX5_freesLine_20 : decode cX5_freesLine 20 = .ok (.putfield 161, 3) := by decide +kernel
theorem dX5_freesLine_23 : decode cX5_freesLine 23 = .ok (.aload_n 0, 1) := by decide +kernel
theorem dX5_freesLine_24 : decode cX5_freesLine 24 = .ok (.iconst 0, 1) := by decide +kernel
theorem dX5_freesLine_25 : decode cX5_freesLine 25 = .ok (.invokevirtual 177, 3) := by decide +kernel
theorem dX5_freesLine_28 : decode cX5_freesLine 28 = .ok (.aload_n 0, 1) := by decide +kernel
theorem dX5_freesLine_29 : decode cX5_freesLine 29 = .ok (.getfield 41, 3) := by decide +kernel
theorem dX5_freesLine_32 : decode cX5_freesLine 32 = .ok (.ifCond .ne 25, 3) := by decide +kernel
theorem dX5_freesLine_35 : decode cX5_freesLine 35 = .ok (.aload_n 0, 1) := by decide +kernel
theorem dX5_freesLine_36 : decode cX5_freesLine 36 = .ok (.getfield 31, 3) := by decide +kernel
theorem dX5_freesLine_39 : decode cX5_freesLine 39 = .ok (.new 168, 3) := by decide +kernel
theorem dX5_freesLine_4 : decode cX5_freesLine 4 = .ok (.invokevirtual 70, 3) := by decide +kernel
theorem dX5_freesLine_42 : decode cX5_freesLine 42 = .ok (.dup, 1) := by decide +kernel
theorem dX5_freesLine_43 : decode cX5_freesLine 43 = .ok (.aload_n 0, 1) := by decide +kernel
theorem dX5_freesLine_44 : decode cX5_freesLine 44 = .ok (.getfield 18, 3) := by decide +kernel
theorem dX5_freesLine_47 : decode cX5_freesLine 47 = .ok (.aload_n 0, 1) := by decide +kernel
theorem dX5_freesLine_48 : decode cX5_freesLine 48 = .ok (.getfield 158, 3) := by decide +kernel
theorem dX5_freesLine_51 : decode cX5_freesLine 51 = .ok (.invokespecial 170, 3) := by decide +kernel
theorem dX5_freesLine_54 : decode cX5_freesLine 54 = .ok (.putfield 180, 3) := by decide +kernel
theorem dX5_freesLine_57 : decode cX5_freesLine 57 = .ok (.return_, 1) := by decide +kernel
theorem dX5_freesLine_7 : decode cX5_freesLine 7 = .ok (.aload_n 0, 1) := by decide +kernel
theorem dX5_freesLine_8 : decode cX5_freesLine 8 = .ok (.bipush 58, 2) := by decide +kernel
theorem dX5_given_0 : decode cX5_given 0 = .ok (.iload_n 1, 1) := by decide +kernel
theorem dX5_given_1 : decode cX5_given 1 = .ok (.tableswitch 218 205 220 #[139, 79, 218, 218, 218, 218, 218, 218, 94, 109, 124, 143, 158, 173, 188, 203], 79) := by decide +kernel
theorem dX5_given_102 : decode cX5_given 102 = .ok (.sipush 1001, 3) := by decide +kernel
theorem dX5_given_105 : decode cX5_given 105 = .ok (.goto 4, 3) := by decide +kernel
theorem dX5_given_108 : decode cX5_given 108 = .ok (.iconst (-1), 1) := by decide +kernel
theorem dX5_given_109 : decode cX5_given 109 = .ok (.ireturn, 1) := by decide +kernel
theorem dX5_given_110 : decode cX5_given 110 = .ok (.aload_n 0, 1) := by decide +kernel
theorem dX5_given_111 : decode cX5_given 111 = .ok (.getfield 161, 3) := by decide +kernel
theorem dX5_given_114 : decode cX5_given 114 = .ok (.ifCond .eq 9, 3) := by decide +kernel
theorem dX5_given_117 : decode cX5_given 117 = .ok (.sipush 1002, 3) := by decide +kernel
theorem dX5_given_120 : decode cX5_given 120 = .ok (.goto 4, 3) := by decide +kernel
theorem dX5_given_123 : decode cX5_given 123 = .ok (.iconst (-1), 1) := by decide +kernel
theorem dX5_given_124 : decode cX5_given 124 = .ok (.ireturn, 1) := by decide +kernel
theorem dX5_given_125 : decode cX5_given 125 = .ok (.aload_n 0, 1) := by decide +kernel
theorem dX5_given_126 : decode cX5_given 126 = .ok (.getfield 161, 3) := by decide +kernel
theorem dX5_given_129 : decode cX5_given 129 = .ok (.ifCond .eq 9, 3) := by decide +kernel
theorem dX5_given_132 : decode cX5_given 132 = .ok (.sipush 1003, 3) := by decide +kernel
theorem dX5_given_135 : decode cX5_given 135 = .ok (.goto 4, 3) := by decide +kernel
theorem dX5_given_138 : decode cX5_given 138 = .ok (.iconst (-1), 1) := by decide +kernel
theorem dX5_given_139 : decode cX5_given 139 = .ok (.ireturn, 1) := by decide +kernel
theorem dX5_given_140 : decode cX5_given 140 = .ok (.sipush 1004, 3) := by decide +kernel
theorem dX5_given_143 : decode cX5_given 143 = .ok (.ireturn, 1) := by decide +kernel
theorem dX5_given_144 : decode cX5_given 144 = .ok (.aload_n 0, 1) := by decide +kernel
theorem dX5_given_145 : decode cX5_given 145 = .ok (.getfield 161, 3) := by decide +kernel
theorem dX5_given_148 : decode cX5_given 148 = .ok (.ifCond .eq 9, 3) := by decide +kernel
theorem dX5_given_151 : decode cX5_given 151 = .ok (.sipush 1005, 3) := by decide +kernel
theorem dX5_given_154 : decode cX5_given 154 = .ok (.goto 4, 3) := by decide +kernel
theorem dX5_given_157 : decode cX5_given 157 = .ok (.iconst (-1), 1) := by decide +kernel
theorem dX5_given_158 : decode cX5_given 158 = .ok (.ireturn, 1) := by decide +kernel
theorem dX5_given_159 : decode cX5_given 159 = .ok (.aload_n 0, 1) := by decide +kernel
theorem dX5_given_160 : decode cX5_given 160 = .ok (.getfield 161, 3) := by decide +kernel
theorem dX5_given_163 : decode cX5_given 163 = .ok (.ifCond .eq 7, 3) := by decide +kernel
theorem dX5_given_166 : decode cX5_given 166 = .ok (.iconst (-1), 1) := by decide +kernel
theorem dX5_given_167 : decode cX5_given 167 = .ok (.goto 6, 3) := by decide +kernel
theorem dX5_given_170 : decode cX5_given 170 = .ok (.sipush 1000, 3) := by decide +kernel
theorem dX5_given_173 : decode cX5_given 173 = .ok (.ireturn, 1) := by decide +kernel
theorem dX5_given_174 : decode cX5_given 174 = .ok (.aload_n 0, 1) := by decide +kernel
theorem dX5_given_175 : decode cX5_given 175 = .ok (.getfield 161, 3) := by decide +kernel
theorem dX5_given_178 : decode cX5_given 178 = .ok (.ifCond .eq 7, 3) := by decide +kernel
theorem dX5_given_181 : decode cX5_given 181 = .ok (.iconst (-1), 1) := by decide +kernel
theorem dX5_given_182 : decode cX5_given 182 = .ok (.goto 6, 3) := by decide +kernel
theorem dX5_given_185 : decode cX5_given 185 = .ok (.sipush 1001, 3) := by decide +kernel
theorem dX5_given_188 : decode cX5_given 188 = .ok (.ireturn, 1) := by decide +kernel
theorem dX5_given_189 : decode cX5_given 189 = .ok (.aload_n 0, 1) := by decide +kernel
theorem dX5_given_190 : decode cX5_given 190 = .ok (.getfield 161, 3) := by decide +kernel
theorem dX5_given_193 : decode cX5_given 193 = .ok (.ifCond .eq 7, 3) := by decide +kernel
theorem dX5_given_196 : decode cX5_given 196 = .ok (.iconst (-1), 1) := by decide +kernel
theorem dX5_given_197 : decode cX5_given 197 = .ok (.goto 6, 3) := by decide +kernel
theorem dX5_given_200 : decode cX5_given 200 = .ok (.sipush 1002, 3) := by decide +kernel
theorem dX5_given_203 : decode cX5_given 203 = .ok (.ireturn, 1) := by decide +kernel
theorem dX5_given_204 : decode cX5_given 204 = .ok (.aload_n 0, 1) := by decide +kernel
theorem dX5_given_205 : decode cX5_given 205 = .ok (.getfield 161, 3) := by decide +kernel
theorem dX5_given_208 : decode cX5_given 208 = .ok (.ifCond .eq 7, 3) := by decide +kernel
theorem dX5_given_211 : decode cX5_given 211 = .ok (.iconst (-1), 1) := by decide +kernel
theorem dX5_given_212 : decode cX5_given 212 = .ok (.goto 6, 3) := by decide +kernel
theorem dX5_given_215 : decode cX5_given 215 = .ok (.sipush 1003, 3) := by decide +kernel
theorem dX5_given_218 : decode cX5_given 218 = .ok (.ireturn, 1) := by decide +kernel
theorem dX5_given_219 : decode cX5_given 219 = .ok (.iconst (-1), 1) := by decide +kernel
theorem dX5_given_220 : decode cX5_given 220 = .ok (.ireturn, 1) := by decide +kernel
theorem dX5_given_80 : decode cX5_given 80 = .ok (.aload_n 0, 1) := by decide +kernel
theorem dX5_given_81 : decode cX5_given 81 = .ok (.getfield 161, 3) := by decide +kernel
theorem dX5_given_84 : decode cX5_given 84 = .ok (.ifCond .eq 9, 3) := by decide +kernel
theorem dX5_given_87 : decode cX5_given 87 = .ok (.sipush 1000, 3) := by decide +kernel
theorem dX5_given_90 : decode cX5_given 90 = .ok (.goto 4, 3) := by decide +kernel
theorem dX5_given_93 : decode cX5_given 93 = .ok (.iconst (-1), 1) := by decide +kernel
theorem dX5_given_94 : decode cX5_given 94 = .ok (.ireturn, 1) := by decide +kernel
theorem dX5_given_95 : decode cX5_given 95 = .ok (.aload_n 0, 1) := by decide +kernel
theorem dX5_given_96 : decode cX5_given 96 = .ok (.getfield 161, 3) := by decide +kernel
theorem dX5_given_99 : decode cX5_given 99 = .ok (.ifCond .eq 9, 3) := by decide +kernel
theorem dX5_hangingThing_0 : decode cX5_hangingThing 0 = .ok (.aload_n 0, 1) := by decide +kernel
theorem dX5_hangingThing_1 : decode cX5_hangingThing 1 = .ok (.getfield 12, 3) := by decide +kernel
theorem dX5_hangingThing_10 : decode cX5_hangingThing 10 = .ok (.getfield 31, 3) := by decide +kernel
theorem dX5_hangingThing_102 : decode cX5_hangingThing 102 = .ok (.iload_n 1, 1) := by decide +kernel
theorem dX5_hangingThing_103 : decode cX5_hangingThing 103 = .ok (.iload_n 3, 1) := by decide +kernel
theorem dX5_hangingThing_104 : decode cX5_hangingThing 104 = .ok (.iastore, 1) := by decide +kernel
theorem dX5_hangingThing_105 : decode cX5_hangingThing 105 = .ok (.aload_n 0, 1) := by decide +kernel
theorem dX5_hangingThing_106 : decode cX5_hangingThing 106 = .ok (.getfield 27, 3) := by decide +kernel
theorem dX5_hangingThing_109 : decode cX5_hangingThing 109 = .ok (.getfield 129, 3) := by decide +kernel
theorem dX5_hangingThing_112 : decode cX5_hangingThing 112 = .ok (.iload_n 1, 1) := by decide +kernel
theorem dX5_hangingThing_113 : decode cX5_hangingThing 113 = .ok (.aload_n 0, 1) := by decide +kernel
theorem dX5_hangingThing_114 : decode cX5_hangingThing 114 = .ok (.iconst 1, 1) := by decide +kernel
theorem dX5_hangingThing_115 : decode cX5_hangingThing 115 = .ok (.bipush 99, 2) := by decide +kernel
theorem dX5_hangingThing_117 : decode cX5_hangingThing 117 = .ok (.invokevirtual 73, 3) := by decide +kernel
theorem dX5_hangingThing_120 : decode cX5_hangingThing 120 = .ok (.iastore, 1) := by decide +kernel
theorem dX5_hangingThing_121 : decode cX5_hangingThing 121 = .ok (.aload_n 0, 1) := by decide +kernel
theorem dX5_hangingThing_122 : decode cX5_hangingThing 122 = .ok (.getfield 12, 3) := by decide +kernel
theorem dX5_hangingThing_125 : decode cX5_hangingThing 125 = .ok (.invokevirtual 70, 3) := by decide +kernel
theorem dX5_hangingThing_128 : decode cX5_hangingThing 128 = .ok (.return_, 1) := by decide +kernel
theorem dX5_hangingThing_13 : decode cX5_hangingThing 13 = .ok (.getfield 105, 3) := by decide +kernel
theorem dX5_hangingThing_16 : decode cX5_hangingThing 16 = .ok (.iconst 1, 1) := by decide +kernel
theorem dX5_hangingThing_17 : decode cX5_hangingThing 17 = .ok (.isub, 1) := by decide +kernel
theorem dX5_hangingThing_18 : decode cX5_hangingThing 18 = .ok (.invokevirtual 73, 3) := by decide +kernel
theorem dX5_hangingThing_21 : decode cX5_hangingThing 21 = .ok (.istore_n 2, 1) := by decide +kernel
theorem dX5_hangingThing_22 : decode cX5_hangingThing 22 = .ok (.aload_n 0, 1) := by decide +kernel
theorem dX5_hangingThing_23 : decode cX5_hangingThing 23 = .ok (.getfield 12, 3) := by decide +kernel
theorem dX5_hangingThing_26 : decode cX5_hangingThing 26 = .ok (.invokevirtual 70, 3) := by decide +kernel
theorem dX5_hangingThing_29 : decode cX5_hangingThing 29 = .ok (.aload_n 0, 1) := by decide +kernel
theorem dX5_hangingThing_30 : decode cX5_hangingThing 30 = .ok (.iconst 0, 1) := by decide +kernel
theorem dX5_hangingThing_31 : decode cX5_hangingThing 31 = .ok (.aload_n 0, 1) := by decide +kernel
theorem dX5_hangingThing_32 : decode cX5_hangingThing 32 = .ok (.getfield 31, 3) := by decide +kernel
theorem dX5_hangingThing_35 : decode cX5_hangingThing 35 = .ok (.getfield 108, 3) := by decide +kernel
theorem dX5_hangingThing_38 : decode cX5_hangingThing 38 = .ok (.iconst 1, 1) := by decide +kernel
theorem dX5_hangingThing_39 : decode cX5_hangingThing 39 = .ok (.isub, 1) := by decide +kernel
theorem dX5_hangingThing_4 : decode cX5_hangingThing 4 = .ok (.invokevirtual 70, 3) := by decide +kernel
theorem dX5_hangingThing_40 : decode cX5_hangingThing 40 = .ok (.invokevirtual 73, 3) := by decide +kernel
theorem dX5_hangingThing_43 : decode cX5_hangingThing 43 = .ok (.istore_n 3, 1) := by decide +kernel
theorem dX5_hangingThing_44 : decode cX5_hangingThing 44 = .ok (.aload_n 0, 1) := by decide +kernel
theorem dX5_hangingThing_45 : decode cX5_hangingThing 45 = .ok (.getfield 27, 3) := by decide +kernel
theorem dX5_hangingThing_48 : decode cX5_hangingThing 48 = .ok (.iload_n 2, 1) := by decide +kernel
theorem dX5_hangingThing_49 : decode cX5_hangingThing 49 = .ok (.iload_n 3, 1) := by decide +kernel
theorem dX5_hangingThing_50 : decode cX5_hangingThing 50 = .ok (.invokevirtual 132, 3) := by decide +kernel
theorem dX5_hangingThing_53 : decode cX5_hangingThing 53 = .ok (.ifCond .ne 8, 3) := by decide +kernel
theorem dX5_hangingThing_56 : decode cX5_hangingThing 56 = .ok (.aload_n 0, 1) := by decide +kernel
theorem dX5_hangingThing_57 : decode cX5_hangingThing 57 = .ok (.iconst 3, 1) := by decide +kernel
theorem dX5_hangingThing_58 : decode cX5_hangingThing 58 = .ok (.invokevirtual 80, 3) := by decide +kernel
theorem dX5_hangingThing_61 : decode cX5_hangingThing 61 = .ok (.aload_n 0, 1) := by decide +kernel
theorem dX5_hangingThing_62 : decode cX5_hangingThing 62 = .ok (.getfield 12, 3) := by decide +kernel
theorem dX5_hangingThing_65 : decode cX5_hangingThing 65 = .ok (.invokevirtual 70, 3) := by decide +kernel
theorem dX5_hangingThing_68 : decode cX5_hangingThing 68 = .ok (.aload_n 0, 1) := by decide +kernel
theorem dX5_hangingThing_69 : decode cX5_hangingThing 69 = .ok (.sipush 208, 3) := by decide +kernel
theorem dX5_hangingThing_7 : decode cX5_hangingThing 7 = .ok (.aload_n 0, 1) := by decide +kernel
theorem dX5_hangingThing_72 : decode cX5_hangingThing 72 = .ok (.invokevirtual 99, 3) := by decide +kernel
theorem dX5_hangingThing_75 : decode cX5_hangingThing 75 = .ok (.aload_n 0, 1) := by decide +kernel
theorem dX5_hangingThing_76 : decode cX5_hangingThing 76 = .ok (.getfield 27, 3) := by decide +kernel
theorem dX5_hangingThing_79 : decode cX5_hangingThing 79 = .ok (.getfield 126, 3) := by decide +kernel
theorem dX5_hangingThing_8 : decode cX5_hangingThing 8 = .ok (.iconst 0, 1) := by decide +kernel
theorem dX5_hangingThing_82 : decode cX5_hangingThing 82 = .ok (.iload_n 1, 1) := by decide +kernel
theorem dX5_hangingThing_83 : decode cX5_hangingThing 83 = .ok (.iconst 1, 1) := by decide +kernel
theorem dX5_hangingThing_84 : decode cX5_hangingThing 84 = .ok (.iastore, 1) := by decide +kernel
theorem dX5_hangingThing_85 : decode cX5_hangingThing 85 = .ok (.aload_n 0, 1) := by decide +kernel
theorem dX5_hangingThing_86 : decode cX5_hangingThing 86 = .ok (.getfield 27, 3) := by decide +kernel
theorem dX5_hangingThing_89 : decode cX5_hangingThing 89 = .ok (.getfield 136, 3) := by decide +kernel
theorem dX5_hangingThing_9 : decode cX5_hangingThing 9 = .ok (.aload_n 0, 1) := by decide +kernel
theorem dX5_hangingThing_92 : decode cX5_hangingThing 92 = .ok (.iload_n 1, 1) := by decide +kernel
theorem dX5_hangingThing_93 : decode cX5_hangingThing 93 = .ok (.iload_n 2, 1) := by decide +kernel
theorem dX5_hangingThing_94 : decode cX5_hangingThing 94 = .ok (.iastore, 1) := by decide +kernel
theorem dX5_hangingThing_95 : decode cX5_hangingThing 95 = .ok (.aload_n 0, 1) := by decide +kernel
theorem dX5_hangingThing_96 : decode cX5_hangingThing 96 = .ok (.getfield 27, 3) := by decide +kernel
theorem dX5_hangingThing_99 : decode cX5_hangingThing 99 = .ok (.getfield 139, 3) := by decide +kernel
theorem dX5_hangsLine_0 : decode cX5_hangsLine 0 = .ok (.aload_n 0, 1) := by decide +kernel
theorem dX5_hangsLine_1 : decode cX5_hangsLine 1 = .ok (.getfield 12, 3) := by decide +kernel
theorem dX5_hangsLine_10 : decode cX5_hangsLine 10 = .ok (.invokevirtual 99, 3) := by decide +kernel
theorem dX5_hangsLine_13 : decode cX5_hangsLine 13 = .ok (.aload_n 0, 1) := by decide +kernel
theorem dX5_hangsLine_14 : decode cX5_hangsLine 14 = .ok (.iconst 0, 1) := by decide +kernel
theorem dX5_hangsLine_15 : decode cX5_hangsLine 15 = .ok (.putfield 158, 3) := by decide +kernel
theorem dX5_hangsLine_18 : decode cX5_hangsLine 18 = .ok (.aload_n 0, 1) := by decide +kernel
theorem dX5_hangsLine_19 : decode cX5_hangsLine 19 = .ok (.iconst 1, 1) := by decide +kernel
theorem dX5_hangsLine_20 : decode cX5_hangsLine 20 = .ok (.putfield 161, 3) := by decide +kernel
theorem dX5_hangsLine_23 : decode cX5_hangsLine 23 = .ok (.aload_n 0, 1) := by decide +kernel
theorem dX5_hangsLine_24 : decode cX5_hangsLine 24 = .ok (.iconst 0, 1) := by decide +kernel
theorem dX5_hangsLine_25 : decode cX5_hangsLine 25 = .ok (.invokevirtual 165, 3) := by decide +kernel
theorem dX5_hangsLine_28 : decode cX5_hangsLine 28 = .ok (.aload_n 0, 1) := by decide +kernel
theorem dX5_hangsLine_29 : decode cX5_hangsLine 29 = .ok (.getfield 41, 3) := by decide +kernel
theorem dX5_hangsLine_32 : decode cX5_hangsLine 32 = .ok (.ifCond .ne 25, 3) := by decide +kernel
theorem dX5_hangsLine_35 : decode cX5_hangsLine 35 = .ok (.aload_n 0, 1) := by decide +kernel
theorem dX5_hangsLine_36 : decode cX5_hangsLine 36 = .ok (.getfield 31, 3) := by decide +kernel
theorem dX5_hangsLine_39 : decode cX5_hangsLine 39 = .ok (.new 168, 3) := by decide +kernel
theorem dX5_hangsLine_4 : decode cX5_hangsLine 4 = .ok (.invokevirtual 70, 3) := by decide +kernel
theorem dX5_hangsLine_42 : decode cX5_hangsLine 42 = .ok (.dup, 1) := by decide +kernel
theorem dX5_hangsLine_43 : decode cX5_hangsLine 43 = .ok (.aload_n 0, 1) := by decide +kernel
theorem dX5_hangsLine_44 : decode cX5_hangsLine 44 = .ok (.getfield 18, 3) := by decide +kernel
theorem dX5_hangsLine_47 : decode cX5_hangsLine 47 = .ok (.aload_n 0, 1) := by decide +kernel
theorem dX5_hangsLine_48 : decode cX5_hangsLine 48 = .ok (.getfield 158, 3) := by decide +kernel
theorem dX5_hangsLine_51 : decode cX5_hangsLine 51 = .ok (.invokespecial 170, 3) := by decide +kernel
theorem dX5_hangsLine_54 : decode cX5_hangsLine 54 = .ok (.putfield 173, 3) := by decide +kernel
theorem dX5_hangsLine_57 : decode cX5_hangsLine 57 = .ok (.return_, 1) := by decide +kernel
theorem dX5_hangsLine_7 : decode cX5_hangsLine 7 = .ok (.aload_n 0, 1) := by decide +kernel
theorem dX5_hangsLine_8 : decode cX5_hangsLine 8 = .ok (.bipush 58, 2) := by decide +kernel
theorem dX5_heldThing_0 : decode cX5_heldThing 0 = .ok (.aload_n 0, 1) := by decide +kernel
theorem dX5_heldThing_1 : decode cX5_heldThing 1 = .ok (.getfield 12, 3) := by decide +kernel
theorem dX5_heldThing_11 : decode cX5_heldThing 11 = .ok (.getfield 126, 3) := by decide +kernel
theorem dX5_heldThing_14 : decode cX5_heldThing 14 = .ok (.iload_n 1, 1) := by decide +kernel
theorem dX5_heldThing_15 : decode cX5_heldThing 15 = .ok (.iconst 0, 1) := by decide +kernel
theorem dX5_heldThing_16 : decode cX5_heldThing 16 = .ok (.iastore, 1) := by decide +kernel
theorem dX5_heldThing_17 : decode cX5_heldThing 17 = .ok (.aload_n 0, 1) := by decide +kernel
theorem dX5_heldThing_18 : decode cX5_heldThing 18 = .ok (.getfield 27, 3) := by decide +kernel
theorem dX5_heldThing_21 : decode cX5_heldThing 21 = .ok (.getfield 129, 3) := by decide +kernel
theorem dX5_heldThing_24 : decode cX5_heldThing 24 = .ok (.iload_n 1, 1) := by decide +kernel
theorem dX5_heldThing_25 : decode cX5_heldThing 25 = .ok (.aload_n 0, 1) := by decide +kernel
theorem dX5_heldThing_26 : decode cX5_heldThing 26 = .ok (.iconst 0, 1) := by decide +kernel
theorem dX5_heldThing_27 : decode cX5_heldThing 27 = .ok (.bipush 99, 2) := by decide +kernel
theorem dX5_heldThing_29 : decode cX5_heldThing 29 = .ok (.invokevirtual 73, 3) := by decide +kernel
theorem dX5_heldThing_32 : decode cX5_heldThing 32 = .ok (.iastore, 1) := by decide +kernel
theorem dX5_heldThing_33 : decode cX5_heldThing 33 = .ok (.aload_n 0, 1) := by decide +kernel
theorem dX5_heldThing_34 : decode cX5_heldThing 34 = .ok (.getfield 12, 3) := by decide +kernel
theorem dX5_heldThing_37 : decode cX5_heldThing 37 = .ok (.invokevirtual 70, 3) := by decide +kernel
theorem dX5_heldThing_4 : decode cX5_heldThing 4 = .ok (.invokevirtual 70, 3) := by decide +kernel
theorem dX5_heldThing_40 : decode cX5_heldThing 40 = .ok (.return_, 1) := by decide +kernel
theorem dX5_heldThing_7 : decode cX5_heldThing 7 = .ok (.aload_n 0, 1) := by decide +kernel
theorem dX5_heldThing_8 : decode cX5_heldThing 8 = .ok (.getfield 27, 3) := by decide +kernel
theorem dX5_isTooDeep_0 : decode cX5_isTooDeep 0 = .ok (.iload_n 1, 1) := by decide +kernel
theorem dX5_isTooDeep_1 : decode cX5_isTooDeep 1 = .ok (.bipush 6, 2) := by decide +kernel
theorem dX5_isTooDeep_11 : decode cX5_isTooDeep 11 = .ok (.iload_n 1, 1) := by decide +kernel
theorem dX5_isTooDeep_12 : decode cX5_isTooDeep 12 = .ok (.bipush 6, 2) := by decide +kernel
theorem dX5_isTooDeep_14 : decode cX5_isTooDeep 14 = .ok (.if_icmp .lt 7, 3) := by decide +kernel
theorem dX5_isTooDeep_17 : decode cX5_isTooDeep 17 = .ok (.iconst 1, 1) := by decide +kernel
theorem dX5_isTooDeep_18 : decode cX5_isTooDeep 18 = .ok (.goto 4, 3) := by decide +kernel
theorem dX5_isTooDeep_21 : decode cX5_isTooDeep 21 = .ok (.iconst 0, 1) := by decide +kernel
theorem dX5_isTooDeep_22 : decode cX5_isTooDeep 22 = .ok (.ireturn, 1) := by decide +kernel
theorem dX5_isTooDeep_3 : decode cX5_isTooDeep 3 = .ok (.if_icmp .lt 8, 3) := by decide +kernel
theorem dX5_isTooDeep_6 : decode cX5_isTooDeep 6 = .ok (.aload_n 0, 1) := by decide +kernel
theorem dX5_isTooDeep_7 : decode cX5_isTooDeep 7 = .ok (.iconst 4, 1) := by decide +kernel
theorem dX5_isTooDeep_8 : decode cX5_isTooDeep 8 = .ok (.invokevirtual 80, 3) := by decide +kernel
theorem dX5_lineEnd_0 : decode cX5_lineEnd 0 = .ok (.aload_n 0, 1) := by decide +kernel
theorem dX5_lineEnd_1 : decode cX5_lineEnd 1 = .ok (.bipush 59, 2) := by decide +kernel
theorem dX5_lineEnd_10 : decode cX5_lineEnd 10 = .ok (.dup, 1) := by decide +kernel
theorem dX5_lineEnd_11 : decode cX5_lineEnd 11 = .ok (.getfield 102, 3) := by decide +kernel
theorem dX5_lineEnd_14 : decode cX5_lineEnd 14 = .ok (.iconst 1, 1) := by decide +kernel
theorem dX5_lineEnd_15 : decode cX5_lineEnd 15 = .ok (.iadd, 1) := by decide +kernel
theorem dX5_lineEnd_16 : decode cX5_lineEnd 16 = .ok (.putfield 102, 3) := by decide +kernel
theorem dX5_lineEnd_19 : decode cX5_lineEnd 19 = .ok (.return_, 1) := by decide +kernel
theorem dX5_lineEnd_3 : decode cX5_lineEnd 3 = .ok (.invokevirtual 99, 3) := by decide +kernel
theorem dX5_lineEnd_6 : decode cX5_lineEnd 6 = .ok (.aload_n 0, 1) := by decide +kernel
theorem dX5_lineEnd_7 : decode cX5_lineEnd 7 = .ok (.getfield 31, 3) := by decide +kernel
theorem dX5_lyingThing_0 : decode cX5_lyingThing 0 = .ok (.aload_n 0, 1) := by decide +kernel
theorem dX5_lyingThing_1 : decode cX5_lyingThing 1 = .ok (.getfield 12, 3) := by decide +kernel
theorem dX5_lyingThing_10 : decode cX5_lyingThing 10 = .ok (.getfield 31, 3) := by decide +kernel
theorem dX5_lyingThing_101 : decode cX5_lyingThing 101 = .ok (.getfield 129, 3) := by decide +kernel
theorem dX5_lyingThing_104 : decode cX5_lyingThing 104 = .ok (.iload_n 1, 1) := by decide +kernel
theorem dX5_lyingThing_105 : decode cX5_lyingThing 105 = .ok (.iconst 0, 1) := by decide +kernel
theorem dX5_lyingThing_106 : decode cX5_lyingThing 106 = .ok (.iastore, 1) := by decide +kernel
theorem dX5_lyingThing_107 : decode cX5_lyingThing 107 = .ok (.return_, 1) := by decide +kernel
theorem dX5_lyingThing_13 : decode cX5_lyingThing 13 = .ok (.getfield 105, 3) := by decide +kernel
theorem dX5_lyingThing_16 : decode cX5_lyingThing 16 = .ok (.iconst 1, 1) := by decide +kernel
theorem dX5_lyingThing_17 : decode cX5_lyingThing 17 = .ok (.isub, 1) := by decide +kernel
theorem dX5_lyingThing_18 : decode cX5_lyingThing 18 = .ok (.invokevirtual 73, 3) := by decide +kernel
theorem dX5_lyingThing_21 : decode cX5_lyingThing 21 = .ok (.istore_n 2, 1) := by decide +kernel
theorem dX5_lyingThing_22 : decode cX5_lyingThing 22 = .ok (.aload_n 0, 1) := by decide +kernel
theorem dX5_lyingThing_23 : decode cX5_lyingThing 23 = .ok (.getfield 27, 3) := by decide +kernel
theorem dX5_lyingThing_26 : decode cX5_lyingThing 26 = .ok (.iload_n 2, 1) := by decide +kernel
theorem dX5_lyingThing_27 : decode cX5_lyingThing 27 = .ok (.invokevirtual 142, 3) := by decide +kernel
theorem dX5_lyingThing_30 : decode cX5_lyingThing 30 = .ok (.istore_n 3, 1) := by decide +kernel
theorem dX5_lyingThing_31 : decode cX5_lyingThing 31 = .ok (.iload_n 3, 1) := by decide +kernel
theorem dX5_lyingThing_32 : decode cX5_lyingThing 32 = .ok (.aload_n 0, 1) := by decide +kernel
theorem dX5_lyingThing_33 : decode cX5_lyingThing 33 = .ok (.getfield 31, 3) := by decide +kernel
theorem dX5_lyingThing_36 : decode cX5_lyingThing 36 = .ok (.getfield 108, 3) := by decide +kernel
theorem dX5_lyingThing_39 : decode cX5_lyingThing 39 = .ok (.if_icmp .ge 16, 3) := by decide +kernel
theorem dX5_lyingThing_4 : decode cX5_lyingThing 4 = .ok (.invokevirtual 70, 3) := by decide +kernel
theorem dX5_lyingThing_42 : decode cX5_lyingThing 42 = .ok (.aload_n 0, 1) := by decide +kernel
theorem dX5_lyingThing_43 : decode cX5_lyingThing 43 = .ok (.getfield 27, 3) := by decide +kernel
theorem dX5_lyingThing_46 : decode cX5_lyingThing 46 = .ok (.iload_n 2, 1) := by decide +kernel
theorem dX5_lyingThing_47 : decode cX5_lyingThing 47 = .ok (.iload_n 3, 1) := by decide +kernel
theorem dX5_lyingThing_48 : decode cX5_lyingThing 48 = .ok (.invokevirtual 146, 3) := by decide +kernel
theorem dX5_lyingThing_51 : decode cX5_lyingThing 51 = .ok (.iconst (-1), 1) := by decide +kernel
theorem dX5_lyingThing_52 : decode cX5_lyingThing 52 = .ok (.if_icmp .eq 8, 3) := by decide +kernel
theorem dX5_lyingThing_55 : decode cX5_lyingThing 55 = .ok (.aload_n 0, 1) := by decide +kernel
theorem dX5_lyingThing_56 : decode cX5_lyingThing 56 = .ok (.iconst 3, 1) := by decide +kernel
theorem dX5_lyingThing_57 : decode cX5_lyingThing 57 = .ok (.invokevirtual 80, 3) := by decide +kernel
theorem dX5_lyingThing_60 : decode cX5_lyingThing 60 = .ok (.aload_n 0, 1) := by decide +kernel
theorem dX5_lyingThing_61 : decode cX5_lyingThing 61 = .ok (.getfield 12, 3) := by decide +kernel
theorem dX5_lyingThing_64 : decode cX5_lyingThing 64 = .ok (.invokevirtual 70, 3) := by decide +kernel
theorem dX5_lyingThing_67 : decode cX5_lyingThing 67 = .ok (.aload_n 0, 1) := by decide +kernel
theorem dX5_lyingThing_68 : decode cX5_lyingThing 68 = .ok (.getfield 27, 3) := by decide +kernel
theorem dX5_lyingThing_7 : decode cX5_lyingThing 7 = .ok (.aload_n 0, 1) := by decide +kernel
theorem dX5_lyingThing_71 : decode cX5_lyingThing 71 = .ok (.getfield 126, 3) := by decide +kernel
theorem dX5_lyingThing_74 : decode cX5_lyingThing 74 = .ok (.iload_n 1, 1) := by decide +kernel
theorem dX5_lyingThing_75 : decode cX5_lyingThing 75 = .ok (.iconst 2, 1) := by decide +kernel
theorem dX5_lyingThing_76 : decode cX5_lyingThing 76 = .ok (.iastore, 1) := by decide +kernel
theorem dX5_lyingThing_77 : decode cX5_lyingThing 77 = .ok (.aload_n 0, 1) := by decide +kernel
theorem dX5_lyingThing_78 : decode cX5_lyingThing 78 = .ok (.getfield 27, 3) := by decide +kernel
theorem dX5_lyingThing_8 : decode cX5_lyingThing 8 = .ok (.iconst 0, 1) := by decide +kernel
theorem dX5_lyingThing_81 : decode cX5_lyingThing 81 = .ok (.getfield 136, 3) := by decide +kernel
theorem dX5_lyingThing_84 : decode cX5_lyingThing 84 = .ok (.iload_n 1, 1) := by decide +kernel
theorem dX5_lyingThing_85 : decode cX5_lyingThing 85 = .ok (.iload_n 2, 1) := by decide +kernel
theorem dX5_lyingThing_86 : decode cX5_lyingThing 86 = .ok (.iastore, 1) := by decide +kernel
theorem dX5_lyingThing_87 : decode cX5_lyingThing 87 = .ok (.aload_n 0, 1) := by decide +kernel
theorem dX5_lyingThing_88 : decode cX5_lyingThing 88 = .ok (.getfield 27, 3) := by decide +kernel
theorem dX5_lyingThing_9 : decode cX5_lyingThing 9 = .ok (.aload_n 0, 1) := by decide +kernel
theorem dX5_lyingThing_91 : decode cX5_lyingThing 91 = .ok (.getfield 139, 3) := by decide +kernel
theorem dX5_lyingThing_94 : decode cX5_lyingThing 94 = .ok (.iload_n 1, 1) := by decide +kernel
theorem dX5_lyingThing_95 : decode cX5_lyingThing 95 = .ok (.iload_n 3, 1) := by decide +kernel
theorem dX5_lyingThing_96 : decode cX5_lyingThing 96 = .ok (.iastore, 1) := by decide +kernel
theorem dX5_lyingThing_97 : decode cX5_lyingThing 97 = .ok (.aload_n 0, 1) := by decide +kernel
theorem dX5_lyingThing_98 : decode cX5_lyingThing 98 = .ok (.getfield 27, 3) := by decide +kernel
theorem dX5_number_0 : decode cX5_number 0 = .ok (.aload_n 0, 1) := by decide +kernel
theorem dX5_number_1 : decode cX5_number 1 = .ok (.getfield 12, 3) := by decide +kernel
theorem dX5_number_10 : decode cX5_number 10 = .ok (.aload_n 0, 1) := by decide +kernel
theorem dX5_number_11 : decode cX5_number 11 = .ok (.iconst 2, 1) := by decide +kernel
theorem dX5_number_12 : decode cX5_number 12 = .ok (.invokevirtual 80, 3) := by decide +kernel
theorem dX5_number_15 : decode cX5_number 15 = .ok (.iload_n 1, 1) := by decide +kernel
theorem dX5_number_16 : decode cX5_number 16 = .ok (.ireturn, 1) := by decide +kernel
theorem dX5_number_17 : decode cX5_number 17 = .ok (.aload_n 0, 1) := by decide +kernel
theorem dX5_number_18 : decode cX5_number 18 = .ok (.getfield 12, 3) := by decide +kernel
theorem dX5_number_21 : decode cX5_number 21 = .ok (.getfield 55, 3) := by decide +kernel
theorem dX5_number_24 : decode cX5_number 24 = .ok (.sipush 1000, 3) := by decide +kernel
theorem dX5_number_27 : decode cX5_number 27 = .ok (.isub, 1) := by decide +kernel
theorem dX5_number_28 : decode cX5_number 28 = .ok (.istore_n 3, 1) := by decide +kernel
theorem dX5_number_29 : decode cX5_number 29 = .ok (.iload_n 3, 1) := by decide +kernel
theorem dX5_number_30 : decode cX5_number 30 = .ok (.iload_n 1, 1) := by decide +kernel
theorem dX5_number_31 : decode cX5_number 31 = .ok (.if_icmp .lt 8, 3) := by decide +kernel
theorem dX5_number_34 : decode cX5_number 34 = .ok (.iload_n 3, 1) := by decide +kernel
theorem dX5_number_35 : decode cX5_number 35 = .ok (.iload_n 2, 1) := by decide +kernel
theorem dX5_number_36 : decode cX5_number 36 = .ok (.if_icmp .le 10, 3) := by decide +kernel
theorem dX5_number_39 : decode cX5_number 39 = .ok (.aload_n 0, 1) := by decide +kernel
theorem dX5_number_4 : decode cX5_number 4 = .ok (.invokevirtual 95, 3) := by decide +kernel
theorem dX5_number_40 : decode cX5_number 40 = .ok (.iconst 3, 1) := by decide +kernel
theorem dX5_number_41 : decode cX5_number 41 = .ok (.invokevirtual 80, 3) := by decide +kernel
theorem dX5_number_44 : decode cX5_number 44 = .ok (.iload_n 1, 1) := by decide +kernel
theorem dX5_number_45 : decode cX5_number 45 = .ok (.ireturn, 1) := by decide +kernel
theorem dX5_number_46 : decode cX5_number 46 = .ok (.iload_n 3, 1) := by decide +kernel
theorem dX5_number_47 : decode cX5_number 47 = .ok (.ireturn, 1) := by decide +kernel
theorem dX5_number_7 : decode cX5_number 7 = .ok (.ifCond .ne 10, 3) := by decide +kernel
theorem dX5_refuse_0 : decode cX5_refuse 0 = .ok (.aload_n 0, 1) := by decide +kernel
theorem dX5_refuse_1 : decode cX5_refuse 1 = .ok (.getfield 41, 3) := by decide +kernel
theorem dX5_refuse_12 : decode cX5_refuse 12 = .ok (.getfield 55, 3) := by decide +kernel
theorem dX5_refuse_15 : decode cX5_refuse 15 = .ok (.iconst 1, 1) := by decide +kernel
theorem dX5_refuse_16 : decode cX5_refuse 16 = .ok (.if_icmp .ne 7, 3) := by decide +kernel
theorem dX5_refuse_19 : decode cX5_refuse 19 = .ok (.iconst 1, 1) := by decide +kernel
theorem dX5_refuse_20 : decode cX5_refuse 20 = .ok (.goto 4, 3) := by decide +kernel
theorem dX5_refuse_23 : decode cX5_refuse 23 = .ok (.iload_n 1, 1) := by decide +kernel
theorem dX5_refuse_24 : decode cX5_refuse 24 = .ok (.putfield 41, 3) := by decide +kernel
theorem dX5_refuse_27 : decode cX5_refuse 27 = .ok (.aload_n 0, 1) := by decide +kernel
theorem dX5_refuse_28 : decode cX5_refuse 28 = .ok (.aload_n 0, 1) := by decide +kernel
theorem dX5_refuse_29 : decode cX5_refuse 29 = .ok (.getfield 12, 3) := by decide +kernel
theorem dX5_refuse_32 : decode cX5_refuse 32 = .ok (.getfield 90, 3) := by decide +kernel
theorem dX5_refuse_35 : decode cX5_refuse 35 = .ok (.putfield 45, 3) := by decide +kernel
theorem dX5_refuse_38 : decode cX5_refuse 38 = .ok (.aload_n 0, 1) := by decide +kernel
theorem dX5_refuse_39 : decode cX5_refuse 39 = .ok (.getfield 12, 3) := by decide +kernel
theorem dX5_refuse_4 : decode cX5_refuse 4 = .ok (.ifCond .ne 41, 3) := by decide +kernel
theorem dX5_refuse_42 : decode cX5_refuse 42 = .ok (.invokevirtual 92, 3) := by decide +kernel
theorem dX5_refuse_45 : decode cX5_refuse 45 = .ok (.return_, 1) := by decide +kernel
theorem dX5_refuse_7 : decode cX5_refuse 7 = .ok (.aload_n 0, 1) := by decide +kernel
theorem dX5_refuse_8 : decode cX5_refuse 8 = .ok (.aload_n 0, 1) := by decide +kernel
theorem dX5_refuse_9 : decode cX5_refuse 9 = .ok (.getfield 12, 3) := by decide +kernel
theorem dX5_sum_0 : decode cX5_sum 0 = .ok (.iconst (-1), 1) := by decide +kernel
theorem dX5_sum_1 : decode cX5_sum 1 = .ok (.istore_n 2, 1) := by decide +kernel
theorem dX5_sum_101 : decode cX5_sum 101 = .ok (.bipush 45, 2) := by decide +kernel
theorem dX5_sum_103 : decode cX5_sum 103 = .ok (.if_icmp .ne 7, 3) := by decide +kernel
theorem dX5_sum_106 : decode cX5_sum 106 = .ok (.iconst 1, 1) := by decide +kernel
theorem dX5_sum_107 : decode cX5_sum 107 = .ok (.goto 4, 3) := by decide +kernel
theorem dX5_sum_110 : decode cX5_sum 110 = .ok (.iconst 0, 1) := by decide +kernel
theorem dX5_sum_111 : decode cX5_sum 111 = .ok (.istore_n 3, 1) := by decide +kernel
theorem dX5_sum_112 : decode cX5_sum 112 = .ok (.iload_n 3, 1) := by decide +kernel
theorem dX5_sum_113 : decode cX5_sum 113 = .ok (.ifCond .eq 32, 3) := by decide +kernel
theorem dX5_sum_116 : decode cX5_sum 116 = .ok (.aload_n 0, 1) := by decide +kernel
theorem dX5_sum_117 : decode cX5_sum 117 = .ok (.getfield 12, 3) := by decide +kernel
theorem dX5_sum_12 : decode cX5_sum 12 = .ok (.if_icmp .ge 139, 3) := by decide +kernel
theorem dX5_sum_120 : decode cX5_sum 120 = .ok (.getfield 55, 3) := by decide +kernel
theorem dX5_sum_123 : decode cX5_sum 123 = .ok (.bipush 43, 2) := by decide +kernel
theorem dX5_sum_125 : decode cX5_sum 125 = .ok (.if_icmp .ne 9, 3) := by decide +kernel
theorem dX5_sum_128 : decode cX5_sum 128 = .ok (.sipush 2001, 3) := by decide +kernel
theorem dX5_sum_131 : decode cX5_sum 131 = .ok (.goto 6, 3) := by decide +kernel
theorem dX5_sum_134 : decode cX5_sum 134 = .ok (.sipush 2002, 3) := by decide +kernel
theorem dX5_sum_137 : decode cX5_sum 137 = .ok (.istore_n 2, 1) := by decide +kernel
theorem dX5_sum_138 : decode cX5_sum 138 = .ok (.aload_n 0, 1) := by decide +kernel
theorem dX5_sum_139 : decode cX5_sum 139 = .ok (.getfield 12, 3) := by decide +kernel
theorem dX5_sum_142 : decode cX5_sum 142 = .ok (.invokevirtual 70, 3) := by decide +kernel
theorem dX5_sum_145 : decode cX5_sum 145 = .ok (.iinc 4 1, 3) := by decide +kernel
theorem dX5_sum_148 : decode cX5_sum 148 = .ok (.goto (-141), 3) := by decide +kernel
theorem dX5_sum_15 : decode cX5_sum 15 = .ok (.iload_n 3, 1) := by decide +kernel
theorem dX5_sum_151 : decode cX5_sum 151 = .ok (.return_, 1) := by decide +kernel
theorem dX5_sum_16 : decode cX5_sum 16 = .ok (.ifCond .eq 135, 3) := by decide +kernel
theorem dX5_sum_19 : decode cX5_sum 19 = .ok (.aload_n 0, 1) := by decide +kernel
theorem dX5_sum_2 : decode cX5_sum 2 = .ok (.iconst 1, 1) := by decide +kernel
theorem dX5_sum_20 : decode cX5_sum 20 = .ok (.iload_n 1, 1) := by decide +kernel
theorem dX5_sum_21 : decode cX5_sum 21 = .ok (.invokevirtual 196, 3) := by decide +kernel
theorem dX5_sum_24 : decode cX5_sum 24 = .ok (.iconst 0, 1) := by decide +kernel
theorem dX5_sum_25 : decode cX5_sum 25 = .ok (.istore 5, 2) := by decide +kernel
theorem dX5_sum_27 : decode cX5_sum 27 = .ok (.iload 5, 2) := by decide +kernel
theorem dX5_sum_29 : decode cX5_sum 29 = .ok (.sipush 900, 3) := by decide +kernel
theorem dX5_sum_3 : decode cX5_sum 3 = .ok (.istore_n 3, 1) := by decide +kernel
theorem dX5_sum_32 : decode cX5_sum 32 = .ok (.if_icmp .ge 40, 3) := by decide +kernel
theorem dX5_sum_35 : decode cX5_sum 35 = .ok (.aload_n 0, 1) := by decide +kernel
theorem dX5_sum_36 : decode cX5_sum 36 = .ok (.getfield 12, 3) := by decide +kernel
theorem dX5_sum_39 : decode cX5_sum 39 = .ok (.getfield 55, 3) := by decide +kernel
theorem dX5_sum_4 : decode cX5_sum 4 = .ok (.iconst 0, 1) := by decide +kernel
theorem dX5_sum_42 : decode cX5_sum 42 = .ok (.bipush 42, 2) := by decide +kernel
theorem dX5_sum_44 : decode cX5_sum 44 = .ok (.if_icmp .ne 28, 3) := by decide +kernel
theorem dX5_sum_47 : decode cX5_sum 47 = .ok (.aload_n 0, 1) := by decide +kernel
theorem dX5_sum_48 : decode cX5_sum 48 = .ok (.getfield 12, 3) := by decide +kernel
theorem dX5_sum_5 : decode cX5_sum 5 = .ok (.istore 4, 2) := by decide +kernel
theorem dX5_sum_51 : decode cX5_sum 51 = .ok (.invokevirtual 70, 3) := by decide +kernel
theorem dX5_sum_54 : decode cX5_sum 54 = .ok (.aload_n 0, 1) := by decide +kernel
theorem dX5_sum_55 : decode cX5_sum 55 = .ok (.iload_n 1, 1) := by decide +kernel
theorem dX5_sum_56 : decode cX5_sum 56 = .ok (.invokevirtual 196, 3) := by decide +kernel
theorem dX5_sum_59 : decode cX5_sum 59 = .ok (.aload_n 0, 1) := by decide +kernel
theorem dX5_sum_60 : decode cX5_sum 60 = .ok (.sipush 2003, 3) := by decide +kernel
theorem dX5_sum_63 : decode cX5_sum 63 = .ok (.invokevirtual 186, 3) := by decide +kernel
theorem dX5_sum_66 : decode cX5_sum 66 = .ok (.iinc 5 1, 3) := by decide +kernel
theorem dX5_sum_69 : decode cX5_sum 69 = .ok (.goto (-42), 3) := by decide +kernel
theorem dX5_sum_7 : decode cX5_sum 7 = .ok (.iload 4, 2) := by decide +kernel
theorem dX5_sum_72 : decode cX5_sum 72 = .ok (.iload_n 2, 1) := by decide +kernel
theorem dX5_sum_73 : decode cX5_sum 73 = .ok (.iconst (-1), 1) := by decide +kernel
theorem dX5_sum_74 : decode cX5_sum 74 = .ok (.if_icmp .eq 8, 3) := by decide +kernel
theorem dX5_sum_77 : decode cX5_sum 77 = .ok (.aload_n 0, 1) := by decide +kernel
theorem dX5_sum_78 : decode cX5_sum 78 = .ok (.iload_n 2, 1) := by decide +kernel
theorem dX5_sum_79 : decode cX5_sum 79 = .ok (.invokevirtual 186, 3) := by decide +kernel
theorem dX5_sum_82 : decode cX5_sum 82 = .ok (.aload_n 0, 1) := by decide +kernel
theorem dX5_sum_83 : decode cX5_sum 83 = .ok (.getfield 12, 3) := by decide +kernel
theorem dX5_sum_86 : decode cX5_sum 86 = .ok (.getfield 55, 3) := by decide +kernel
theorem dX5_sum_89 : decode cX5_sum 89 = .ok (.bipush 43, 2) := by decide +kernel
theorem dX5_sum_9 : decode cX5_sum 9 = .ok (.sipush 900, 3) := by decide +kernel
theorem dX5_sum_91 : decode cX5_sum 91 = .ok (.if_icmp .eq 15, 3) := by decide +kernel
theorem dX5_sum_94 : decode cX5_sum 94 = .ok (.aload_n 0, 1) := by decide +kernel
theorem dX5_sum_95 : decode cX5_sum 95 = .ok (.getfield 12, 3) := by decide +kernel
theorem dX5_sum_98 : decode cX5_sum 98 = .ok (.getfield 55, 3) := by decide +kernel
theorem dX5_thingLine_0 : decode cX5_thingLine 0 = .ok (.aload_n 0, 1) := by decide +kernel
theorem dX5_thingLine_1 : decode cX5_thingLine 1 = .ok (.getfield 31, 3) := by decide +kernel
theorem dX5_thingLine_101 : decode cX5_thingLine 101 = .ok (.goto 16, 3) := by decide +kernel
theorem dX5_thingLine_104 : decode cX5_thingLine 104 = .ok (.aload_n 0, 1) := by decide +kernel
theorem dX5_thingLine_105 : decode cX5_thingLine 105 = .ok (.iload_n 1, 1) := by decide +kernel
theorem dX5_thingLine_106 : decode cX5_thingLine 106 = .ok (.invokevirtual 123, 3) := by decide +kernel
theorem dX5_thingLine_109 : decode cX5_thingLine 109 = .ok (.goto 8, 3) := by decide +kernel
theorem dX5_thingLine_11 : decode cX5_thingLine 11 = .ok (.if_icmp .lt 9, 3) := by decide +kernel
theorem dX5_thingLine_112 : decode cX5_thingLine 112 = .ok (.aload_n 0, 1) := by decide +kernel
theorem dX5_thingLine_113 : decode cX5_thingLine 113 = .ok (.iconst 2, 1) := by decide +kernel
theorem dX5_thingLine_114 : decode cX5_thingLine 114 = .ok (.invokevirtual 80, 3) := by decide +kernel
theorem dX5_thingLine_117 : decode cX5_thingLine 117 = .ok (.aload_n 0, 1) := by decide +kernel
theorem dX5_thingLine_118 : decode cX5_thingLine 118 = .ok (.getfield 31, 3) := by decide +kernel
theorem dX5_thingLine_121 : decode cX5_thingLine 121 = .ok (.dup, 1) := by decide +kernel
theorem dX5_thingLine_122 : decode cX5_thingLine 122 = .ok (.getfield 111, 3) := by decide +kernel
theorem dX5_thingLine_125 : decode cX5_thingLine 125 = .ok (.iconst 1, 1) := by decide +kernel
theorem dX5_thingLine_126 : decode cX5_thingLine 126 = .ok (.iadd, 1) := by decide +kernel
theorem dX5_thingLine_127 : decode cX5_thingLine 127 = .ok (.putfield 111, 3) := by decide +kernel
theorem dX5_thingLine_130 : decode cX5_thingLine 130 = .ok (.return_, 1) := by decide +kernel
theorem dX5_thingLine_14 : decode cX5_thingLine 14 = .ok (.aload_n 0, 1) := by decide +kernel
theorem dX5_thingLine_15 : decode cX5_thingLine 15 = .ok (.iconst 4, 1) := by decide +kernel
theorem dX5_thingLine_16 : decode cX5_thingLine 16 = .ok (.invokevirtual 80, 3) := by decide +kernel
theorem dX5_thingLine_19 : decode cX5_thingLine 19 = .ok (.return_, 1) := by decide +kernel
theorem dX5_thingLine_20 : decode cX5_thingLine 20 = .ok (.aload_n 0, 1) := by decide +kernel
theorem dX5_thingLine_21 : decode cX5_thingLine 21 = .ok (.getfield 12, 3) := by decide +kernel
theorem dX5_thingLine_24 : decode cX5_thingLine 24 = .ok (.invokevirtual 70, 3) := by decide +kernel
theorem dX5_thingLine_27 : decode cX5_thingLine 27 = .ok (.aload_n 0, 1) := by decide +kernel
theorem dX5_thingLine_28 : decode cX5_thingLine 28 = .ok (.getfield 31, 3) := by decide +kernel
theorem dX5_thingLine_31 : decode cX5_thingLine 31 = .ok (.getfield 114, 3) := by decide +kernel
theorem dX5_thingLine_34 : decode cX5_thingLine 34 = .ok (.iload_n 1, 1) := by decide +kernel
theorem dX5_thingLine_35 : decode cX5_thingLine 35 = .ok (.aload_n 0, 1) := by decide +kernel
theorem dX5_thingLine_36 : decode cX5_thingLine 36 = .ok (.iconst 1, 1) := by decide +kernel
theorem dX5_thingLine_37 : decode cX5_thingLine 37 = .ok (.bipush 99, 2) := by decide +kernel
theorem dX5_thingLine_39 : decode cX5_thingLine 39 = .ok (.invokevirtual 73, 3) := by decide +kernel
theorem dX5_thingLine_4 : decode cX5_thingLine 4 = .ok (.getfield 111, 3) := by decide +kernel
theorem dX5_thingLine_42 : decode cX5_thingLine 42 = .ok (.iastore, 1) := by decide +kernel
theorem dX5_thingLine_43 : decode cX5_thingLine 43 = .ok (.aload_n 0, 1) := by decide +kernel
theorem dX5_thingLine_44 : decode cX5_thingLine 44 = .ok (.getfield 12, 3) := by decide +kernel
theorem dX5_thingLine_47 : decode cX5_thingLine 47 = .ok (.invokevirtual 70, 3) := by decide +kernel
theorem dX5_thingLine_50 : decode cX5_thingLine 50 = .ok (.aload_n 0, 1) := by decide +kernel
theorem dX5_thingLine_51 : decode cX5_thingLine 51 = .ok (.getfield 12, 3) := by decide +kernel
theorem dX5_thingLine_54 : decode cX5_thingLine 54 = .ok (.getfield 55, 3) := by decide +kernel
theorem dX5_thingLine_57 : decode cX5_thingLine 57 = .ok (.tableswitch 55 206 209 #[31, 39, 55, 47], 31) := by decide +kernel
theorem dX5_thingLine_7 : decode cX5_thingLine 7 = .ok (.istore_n 1, 1) := by decide +kernel
theorem dX5_thingLine_8 : decode cX5_thingLine 8 = .ok (.iload_n 1, 1) := by decide +kernel
theorem dX5_thingLine_88 : decode cX5_thingLine 88 = .ok (.aload_n 0, 1) := by decide +kernel
theorem dX5_thingLine_89 : decode cX5_thingLine 89 = .ok (.iload_n 1, 1) := by decide +kernel
theorem dX5_thingLine_9 : decode cX5_thingLine 9 = .ok (.bipush 8, 2) := by decide +kernel
theorem dX5_thingLine_90 : decode cX5_thingLine 90 = .ok (.invokevirtual 117, 3) := by decide +kernel
theorem dX5_thingLine_93 : decode cX5_thingLine 93 = .ok (.goto 24, 3) := by decide +kernel
theorem dX5_thingLine_96 : decode cX5_thingLine 96 = .ok (.aload_n 0, 1) := by decide +kernel
theorem dX5_thingLine_97 : decode cX5_thingLine 97 = .ok (.iload_n 1, 1) := by decide +kernel
theorem dX5_thingLine_98 : decode cX5_thingLine 98 = .ok (.invokevirtual 120, 3) := by decide +kernel
theorem dX5_truth_0 : decode cX5_truth 0 = .ok (.iconst 1, 1) := by decide +kernel
theorem dX5_truth_1 : decode cX5_truth 1 = .ok (.istore_n 2, 1) := by decide +kernel
theorem dX5_truth_100 : decode cX5_truth 100 = .ok (.ifCond .eq 10, 3) := by decide +kernel
theorem dX5_truth_103 : decode cX5_truth 103 = .ok (.aload_n 0, 1) := by decide +kernel
theorem dX5_truth_104 : decode cX5_truth 104 = .ok (.getfield 12, 3) := by decide +kernel
theorem dX5_truth_107 : decode cX5_truth 107 = .ok (.invokevirtual 70, 3) := by decide +kernel
theorem dX5_truth_11 : decode cX5_truth 11 = .ok (.iload_n 2, 1) := by decide +kernel
theorem dX5_truth_110 : decode cX5_truth 110 = .ok (.iinc 3 1, 3) := by decide +kernel
theorem dX5_truth_113 : decode cX5_truth 113 = .ok (.goto (-109), 3) := by decide +kernel
theorem dX5_truth_116 : decode cX5_truth 116 = .ok (.return_, 1) := by decide +kernel
theorem dX5_truth_12 : decode cX5_truth 12 = .ok (.ifCond .eq 104, 3) := by decide +kernel
theorem dX5_truth_15 : decode cX5_truth 15 = .ok (.aload_n 0, 1) := by decide +kernel
theorem dX5_truth_16 : decode cX5_truth 16 = .ok (.iload_n 1, 1) := by decide +kernel
theorem dX5_truth_17 : decode cX5_truth 17 = .ok (.invokevirtual 183, 3) := by decide +kernel
theorem dX5_truth_2 : decode cX5_truth 2 = .ok (.iconst 0, 1) := by decide +kernel
theorem dX5_truth_20 : decode cX5_truth 20 = .ok (.iconst 0, 1) := by decide +kernel
theorem dX5_truth_21 : decode cX5_truth 21 = .ok (.istore 4, 2) := by decide +kernel
theorem dX5_truth_23 : decode cX5_truth 23 = .ok (.iload 4, 2) := by decide +kernel
theorem dX5_truth_25 : decode cX5_truth 25 = .ok (.sipush 900, 3) := by decide +kernel
theorem dX5_truth_28 : decode cX5_truth 28 = .ok (.if_icmp .ge 41, 3) := by decide +kernel
theorem dX5_truth_3 : decode cX5_truth 3 = .ok (.istore_n 3, 1) := by decide +kernel
theorem dX5_truth_31 : decode cX5_truth 31 = .ok (.aload_n 0, 1) := by decide +kernel
theorem dX5_truth_32 : decode cX5_truth 32 = .ok (.getfield 12, 3) := by decide +kernel
theorem dX5_truth_35 : decode cX5_truth 35 = .ok (.getfield 55, 3) := by decide +kernel
theorem dX5_truth_38 : decode cX5_truth 38 = .ok (.sipush 211, 3) := by decide +kernel
theorem dX5_truth_4 : decode cX5_truth 4 = .ok (.iload_n 3, 1) := by decide +kernel
theorem dX5_truth_41 : decode cX5_truth 41 = .ok (.if_icmp .ne 28, 3) := by decide +kernel
theorem dX5_truth_44 : decode cX5_truth 44 = .ok (.aload_n 0, 1) := by decide +kernel
theorem dX5_truth_45 : decode cX5_truth 45 = .ok (.getfield 12, 3) := by decide +kernel
theorem dX5_truth_48 : decode cX5_truth 48 = .ok (.invokevirtual 70, 3) := by decide +kernel
theorem dX5_truth_5 : decode cX5_truth 5 = .ok (.sipush 900, 3) := by decide +kernel
theorem dX5_truth_51 : decode cX5_truth 51 = .ok (.aload_n 0, 1) := by decide +kernel
theorem dX5_truth_52 : decode cX5_truth 52 = .ok (.iload_n 1, 1) := by decide +kernel
theorem dX5_truth_53 : decode cX5_truth 53 = .ok (.invokevirtual 183, 3) := by decide +kernel
theorem dX5_truth_56 : decode cX5_truth 56 = .ok (.aload_n 0, 1) := by decide +kernel
theorem dX5_truth_57 : decode cX5_truth 57 = .ok (.sipush 2007, 3) := by decide +kernel
theorem dX5_truth_60 : decode cX5_truth 60 = .ok (.invokevirtual 186, 3) := by decide +kernel
theorem dX5_truth_63 : decode cX5_truth 63 = .ok (.iinc 4 1, 3) := by decide +kernel
theorem dX5_truth_66 : decode cX5_truth 66 = .ok (.goto (-43), 3) := by decide +kernel
theorem dX5_truth_69 : decode cX5_truth 69 = .ok (.iload_n 3, 1) := by decide +kernel
theorem dX5_truth_70 : decode cX5_truth 70 = .ok (.ifCond .le 10, 3) := by decide +kernel
theorem dX5_truth_73 : decode cX5_truth 73 = .ok (.aload_n 0, 1) := by decide +kernel
theorem dX5_truth_74 : decode cX5_truth 74 = .ok (.sipush 2008, 3) := by decide +kernel
theorem dX5_truth_77 : decode cX5_truth 77 = .ok (.invokevirtual 186, 3) := by decide +kernel
theorem dX5_truth_8 : decode cX5_truth 8 = .ok (.if_icmp .ge 108, 3) := by decide +kernel
theorem dX5_truth_80 : decode cX5_truth 80 = .ok (.aload_n 0, 1) := by decide +kernel
theorem dX5_truth_81 : decode cX5_truth 81 = .ok (.getfield 12, 3) := by decide +kernel
theorem dX5_truth_84 : decode cX5_truth 84 = .ok (.getfield 55, 3) := by decide +kernel
theorem dX5_truth_87 : decode cX5_truth 87 = .ok (.sipush 212, 3) := by decide +kernel
theorem dX5_truth_90 : decode cX5_truth 90 = .ok (.if_icmp .ne 7, 3) := by decide +kernel
theorem dX5_truth_93 : decode cX5_truth 93 = .ok (.iconst 1, 1) := by decide +kernel
theorem dX5_truth_94 : decode cX5_truth 94 = .ok (.goto 4, 3) := by decide +kernel
theorem dX5_truth_97 : decode cX5_truth 97 = .ok (.iconst 0, 1) := by decide +kernel
theorem dX5_truth_98 : decode cX5_truth 98 = .ok (.istore_n 2, 1) := by decide +kernel
theorem dX5_truth_99 : decode cX5_truth 99 = .ok (.iload_n 2, 1) := by decide +kernel
theorem dX5_unit_0 : decode cX5_unit 0 = .ok (.aload_n 0, 1) := by decide +kernel
theorem dX5_unit_1 : decode cX5_unit 1 = .ok (.getfield 12, 3) := by decide +kernel
theorem dX5_unit_10 : decode cX5_unit 10 = .ok (.if_icmp .ne 35, 3) := by decide +kernel
theorem dX5_unit_100 : decode cX5_unit 100 = .ok (.invokestatic 193, 3) := by decide +kernel
theorem dX5_unit_103 : decode cX5_unit 103 = .ok (.istore_n 2, 1) := by decide +kernel
theorem dX5_unit_104 : decode cX5_unit 104 = .ok (.iload_n 2, 1) := by decide +kernel
theorem dX5_unit_105 : decode cX5_unit 105 = .ok (.iconst (-1), 1) := by decide +kernel
theorem dX5_unit_106 : decode cX5_unit 106 = .ok (.if_icmp .ne 11, 3) := by decide +kernel
theorem dX5_unit_109 : decode cX5_unit 109 = .ok (.aload_n 0, 1) := by decide +kernel
theorem dX5_unit_110 : decode cX5_unit 110 = .ok (.iconst 2, 1) := by decide +kernel
theorem dX5_unit_111 : decode cX5_unit 111 = .ok (.invokevirtual 80, 3) := by decide +kernel
theorem dX5_unit_114 : decode cX5_unit 114 = .ok (.goto 20, 3) := by decide +kernel
theorem dX5_unit_117 : decode cX5_unit 117 = .ok (.aload_n 0, 1) := by decide +kernel
theorem dX5_unit_118 : decode cX5_unit 118 = .ok (.getfield 12, 3) := by decide +kernel
theorem dX5_unit_121 : decode cX5_unit 121 = .ok (.invokevirtual 70, 3) := by decide +kernel
theorem dX5_unit_124 : decode cX5_unit 124 = .ok (.aload_n 0, 1) := by decide +kernel
theorem dX5_unit_125 : decode cX5_unit 125 = .ok (.iload_n 1, 1) := by decide +kernel
theorem dX5_unit_126 : decode cX5_unit 126 = .ok (.invokevirtual 165, 3) := by decide +kernel
theorem dX5_unit_129 : decode cX5_unit 129 = .ok (.aload_n 0, 1) := by decide +kernel
theorem dX5_unit_13 : decode cX5_unit 13 = .ok (.aload_n 0, 1) := by decide +kernel
theorem dX5_unit_130 : decode cX5_unit 130 = .ok (.iload_n 2, 1) := by decide +kernel
theorem dX5_unit_131 : decode cX5_unit 131 = .ok (.invokevirtual 186, 3) := by decide +kernel
theorem dX5_unit_134 : decode cX5_unit 134 = .ok (.return_, 1) := by decide +kernel
theorem dX5_unit_14 : decode cX5_unit 14 = .ok (.iload_n 1, 1) := by decide +kernel
theorem dX5_unit_15 : decode cX5_unit 15 = .ok (.invokevirtual 189, 3) := by decide +kernel
theorem dX5_unit_18 : decode cX5_unit 18 = .ok (.ifCond .ne 116, 3) := by decide +kernel
theorem dX5_unit_21 : decode cX5_unit 21 = .ok (.aload_n 0, 1) := by decide +kernel
theorem dX5_unit_22 : decode cX5_unit 22 = .ok (.getfield 12, 3) := by decide +kernel
theorem dX5_unit_25 : decode cX5_unit 25 = .ok (.invokevirtual 70, 3) := by decide +kernel
theorem dX5_unit_28 : decode cX5_unit 28 = .ok (.aload_n 0, 1) := by decide +kernel
theorem dX5_unit_29 : decode cX5_unit 29 = .ok (.iload_n 1, 1) := by decide +kernel
theorem dX5_unit_30 : decode cX5_unit 30 = .ok (.iconst 1, 1) := by decide +kernel
theorem dX5_unit_31 : decode cX5_unit 31 = .ok (.iadd, 1) := by decide +kernel
theorem dX5_unit_32 : decode cX5_unit 32 = .ok (.invokevirtual 183, 3) := by decide +kernel
theorem dX5_unit_35 : decode cX5_unit 35 = .ok (.aload_n 0, 1) := by decide +kernel
theorem dX5_unit_36 : decode cX5_unit 36 = .ok (.sipush 2000, 3) := by decide +kernel
theorem dX5_unit_39 : decode cX5_unit 39 = .ok (.invokevirtual 186, 3) := by decide +kernel
theorem dX5_unit_4 : decode cX5_unit 4 = .ok (.getfield 55, 3) := by decide +kernel
theorem dX5_unit_42 : decode cX5_unit 42 = .ok (.goto 92, 3) := by decide +kernel
theorem dX5_unit_45 : decode cX5_unit 45 = .ok (.aload_n 0, 1) := by decide +kernel
theorem dX5_unit_46 : decode cX5_unit 46 = .ok (.getfield 12, 3) := by decide +kernel
theorem dX5_unit_49 : decode cX5_unit 49 = .ok (.getfield 55, 3) := by decide +kernel
theorem dX5_unit_52 : decode cX5_unit 52 = .ok (.bipush 91, 2) := by decide +kernel
theorem dX5_unit_54 : decode cX5_unit 54 = .ok (.if_icmp .ne 34, 3) := by decide +kernel
theorem dX5_unit_57 : decode cX5_unit 57 = .ok (.aload_n 0, 1) := by decide +kernel
theorem dX5_unit_58 : decode cX5_unit 58 = .ok (.iload_n 1, 1) := by decide +kernel
theorem dX5_unit_59 : decode cX5_unit 59 = .ok (.invokevirtual 189, 3) := by decide +kernel
theorem dX5_unit_62 : decode cX5_unit 62 = .ok (.ifCond .ne 72, 3) := by decide +kernel
theorem dX5_unit_65 : decode cX5_unit 65 = .ok (.aload_n 0, 1) := by decide +kernel
theorem dX5_unit_66 : decode cX5_unit 66 = .ok (.getfield 12, 3) := by decide +kernel
theorem dX5_unit_69 : decode cX5_unit 69 = .ok (.invokevirtual 70, 3) := by decide +kernel
theorem dX5_unit_7 : decode cX5_unit 7 = .ok (.sipush 210, 3) := by decide +kernel
theorem dX5_unit_72 : decode cX5_unit 72 = .ok (.aload_n 0, 1) := by decide +kernel
theorem dX5_unit_73 : decode cX5_unit 73 = .ok (.iload_n 1, 1) := by decide +kernel
theorem dX5_unit_74 : decode cX5_unit 74 = .ok (.iconst 1, 1) := by decide +kernel
theorem dX5_unit_75 : decode cX5_unit 75 = .ok (.iadd, 1) := by decide +kernel
theorem dX5_unit_76 : decode cX5_unit 76 = .ok (.invokevirtual 177, 3) := by decide +kernel
theorem dX5_unit_79 : decode cX5_unit 79 = .ok (.aload_n 0, 1) := by decide +kernel
theorem dX5_unit_80 : decode cX5_unit 80 = .ok (.bipush 93, 2) := by decide +kernel
theorem dX5_unit_82 : decode cX5_unit 82 = .ok (.invokevirtual 99, 3) := by decide +kernel
theorem dX5_unit_85 : decode cX5_unit 85 = .ok (.goto 49, 3) := by decide +kernel
theorem dX5_unit_88 : decode cX5_unit 88 = .ok (.aload_n 0, 1) := by decide +kernel
theorem dX5_unit_89 : decode cX5_unit 89 = .ok (.iload_n 1, 1) := by decide +kernel
theorem dX5_unit_90 : decode cX5_unit 90 = .ok (.invokevirtual 165, 3) := by decide +kernel
theorem dX5_unit_93 : decode cX5_unit 93 = .ok (.aload_n 0, 1) := by decide +kernel
theorem dX5_unit_94 : decode cX5_unit 94 = .ok (.getfield 12, 3) := by decide +kernel
theorem dX5_unit_97 : decode cX5_unit 97 = .ok (.getfield 55, 3) := by decide +kernel
theorem dX5_walkerLine_0 : decode cX5_walkerLine 0 = .ok (.aload_n 0, 1) := by decide +kernel
theorem dX5_walkerLine_1 : decode cX5_walkerLine 1 = .ok (.getfield 31, 3) := by decide +kernel
theorem dX5_walkerLine_10 : decode cX5_walkerLine 10 = .ok (.if_icmp .lt 9, 3) := by decide +kernel
theorem dX5_walkerLine_101 : decode cX5_walkerLine 101 = .ok (.aload_n 0, 1) := by decide +kernel
theorem dX5_walkerLine_102 : decode cX5_walkerLine 102 = .ok (.getfield 31, 3) := by decide +kernel
theorem dX5_walkerLine_105 : decode cX5_walkerLine 105 = .ok (.dup, 1) := by decide +kernel
theorem dX5_walkerLine_106 : decode cX5_walkerLine 106 = .ok (.getfield 149, 3) := by decide +kernel
theorem dX5_walkerLine_109 : decode cX5_walkerLine 109 = .ok (.iconst 1, 1) := by decide +kernel
theorem dX5_walkerLine_110 : decode cX5_walkerLine 110 = .ok (.iadd, 1) := by decide +kernel
theorem dX5_walkerLine_111 : decode cX5_walkerLine 111 = .ok (.putfield 149, 3) := by decide +kernel
theorem dX5_walkerLine_114 : decode cX5_walkerLine 114 = .ok (.return_, 1) := by decide +kernel
theorem dX5_walkerLine_13 : decode cX5_walkerLine 13 = .ok (.aload_n 0, 1) := by decide +kernel
theorem dX5_walkerLine_14 : decode cX5_walkerLine 14 = .ok (.iconst 4, 1) := by decide +kernel
theorem dX5_walkerLine_15 : decode cX5_walkerLine 15 = .ok (.invokevirtual 80, 3) := by decide +kernel
theorem dX5_walkerLine_18 : decode cX5_walkerLine 18 = .ok (.return_, 1) := by decide +kernel
theorem dX5_walkerLine_19 : decode cX5_walkerLine 19 = .ok (.aload_n 0, 1) := by decide +kernel
theorem dX5_walkerLine_20 : decode cX5_walkerLine 20 = .ok (.getfield 12, 3) := by decide +kernel
theorem dX5_walkerLine_23 : decode cX5_walkerLine 23 = .ok (.invokevirtual 70, 3) := by decide +kernel
theorem dX5_walkerLine_26 : decode cX5_walkerLine 26 = .ok (.iconst 0, 1) := by decide +kernel
theorem dX5_walkerLine_27 : decode cX5_walkerLine 27 = .ok (.istore_n 2, 1) := by decide +kernel
theorem dX5_walkerLine_28 : decode cX5_walkerLine 28 = .ok (.iload_n 2, 1) := by decide +kernel
theorem dX5_walkerLine_29 : decode cX5_walkerLine 29 = .ok (.bipush 8, 2) := by decide +kernel
theorem dX5_walkerLine_31 : decode cX5_walkerLine 31 = .ok (.if_icmp .ge 70, 3) := by decide +kernel
theorem dX5_walkerLine_34 : decode cX5_walkerLine 34 = .ok (.iload_n 2, 1) := by decide +kernel
theorem dX5_walkerLine_35 : decode cX5_walkerLine 35 = .ok (.ifCond .eq 13, 3) := by decide +kernel
theorem dX5_walkerLine_38 : decode cX5_walkerLine 38 = .ok (.aload_n 0, 1) := by decide +kernel
theorem dX5_walkerLine_39 : decode cX5_walkerLine 39 = .ok (.getfield 12, 3) := by decide +kernel
theorem dX5_walkerLine_4 : decode cX5_walkerLine 4 = .ok (.getfield 149, 3) := by decide +kernel
theorem dX5_walkerLine_42 : decode cX5_walkerLine 42 = .ok (.invokevirtual 95, 3) := by decide +kernel
theorem dX5_walkerLine_45 : decode cX5_walkerLine 45 = .ok (.ifCond .eq 56, 3) := by decide +kernel
theorem dX5_walkerLine_48 : decode cX5_walkerLine 48 = .ok (.aload_n 0, 1) := by decide +kernel
theorem dX5_walkerLine_49 : decode cX5_walkerLine 49 = .ok (.getfield 31, 3) := by decide +kernel
theorem dX5_walkerLine_52 : decode cX5_walkerLine 52 = .ok (.getfield 152, 3) := by decide +kernel
theorem dX5_walkerLine_55 : decode cX5_walkerLine 55 = .ok (.iload_n 1, 1) := by decide +kernel
theorem dX5_walkerLine_56 : decode cX5_walkerLine 56 = .ok (.bipush 8, 2) := by decide +kernel
theorem dX5_walkerLine_58 : decode cX5_walkerLine 58 = .ok (.imul, 1) := by decide +kernel
theorem dX5_walkerLine_59 : decode cX5_walkerLine 59 = .ok (.iload_n 2, 1) := by decide +kernel
theorem dX5_walkerLine_60 : decode cX5_walkerLine 60 = .ok (.iadd, 1) := by decide +kernel
theorem dX5_walkerLine_61 : decode cX5_walkerLine 61 = .ok (.aload_n 0, 1) := by decide +kernel
theorem dX5_walkerLine_62 : decode cX5_walkerLine 62 = .ok (.iconst 0, 1) := by decide +kernel
theorem dX5_walkerLine_63 : decode cX5_walkerLine 63 = .ok (.aload_n 0, 1) := by decide +kernel
theorem dX5_walkerLine_64 : decode cX5_walkerLine 64 = .ok (.getfield 31, 3) := by decide +kernel
theorem dX5_walkerLine_67 : decode cX5_walkerLine 67 = .ok (.getfield 105, 3) := by decide +kernel
theorem dX5_walkerLine_7 : decode cX5_walkerLine 7 = .ok (.istore_n 1, 1) := by decide +kernel
theorem dX5_walkerLine_70 : decode cX5_walkerLine 70 = .ok (.iconst 1, 1) := by decide +kernel
theorem dX5_walkerLine_71 : decode cX5_walkerLine 71 = .ok (.isub, 1) := by decide +kernel
theorem dX5_walkerLine_72 : decode cX5_walkerLine 72 = .ok (.invokevirtual 73, 3) := by decide +kernel
theorem dX5_walkerLine_75 : decode cX5_walkerLine 75 = .ok (.iastore, 1) := by decide +kernel
theorem dX5_walkerLine_76 : decode cX5_walkerLine 76 = .ok (.aload_n 0, 1) := by decide +kernel
theorem dX5_walkerLine_77 : decode cX5_walkerLine 77 = .ok (.getfield 31, 3) := by decide +kernel
theorem dX5_walkerLine_8 : decode cX5_walkerLine 8 = .ok (.iload_n 1, 1) := by decide +kernel
theorem dX5_walkerLine_80 : decode cX5_walkerLine 80 = .ok (.getfield 155, 3) := by decide +kernel
theorem dX5_walkerLine_83 : decode cX5_walkerLine 83 = .ok (.iload_n 1, 1) := by decide +kernel
theorem dX5_walkerLine_84 : decode cX5_walkerLine 84 = .ok (.iload_n 2, 1) := by decide +kernel
theorem dX5_walkerLine_85 : decode cX5_walkerLine 85 = .ok (.iconst 1, 1) := by decide +kernel
theorem dX5_walkerLine_86 : decode cX5_walkerLine 86 = .ok (.iadd, 1) := by decide +kernel
theorem dX5_walkerLine_87 : decode cX5_walkerLine 87 = .ok (.iastore, 1) := by decide +kernel
theorem dX5_walkerLine_88 : decode cX5_walkerLine 88 = .ok (.aload_n 0, 1) := by decide +kernel
theorem dX5_walkerLine_89 : decode cX5_walkerLine 89 = .ok (.getfield 12, 3) := by decide +kernel
theorem dX5_walkerLine_9 : decode cX5_walkerLine 9 = .ok (.iconst 4, 1) := by decide +kernel
theorem dX5_walkerLine_92 : decode cX5_walkerLine 92 = .ok (.invokevirtual 70, 3) := by decide +kernel
theorem dX5_walkerLine_95 : decode cX5_walkerLine 95 = .ok (.iinc 2 1, 3) := by decide +kernel
theorem dX5_walkerLine_98 : decode cX5_walkerLine 98 = .ok (.goto (-70), 3) := by decide +kernel
theorem dX7_advance_0 : decode cX7_advance 0 = .ok (.aload_n 0, 1) := by decide +kernel
theorem dX7_advance_1 : decode cX7_advance 1 = .ok (.getfield 49, 3) := by decide +kernel
theorem dX7_advance_10 : decode cX7_advance 10 = .ok (.if_icmp .ge 39, 3) := by decide +kernel
theorem dX7_advance_13 : decode cX7_advance 13 = .ok (.aload_n 0, 1) := by decide +kernel
theorem dX7_advance_14 : decode cX7_advance 14 = .ok (.dup, 1) := by decide +kernel
theorem dX7_advance_15 : decode cX7_advance 15 = .ok (.getfield 49, 3) := by decide +kernel
theorem dX7_advance_18 : decode cX7_advance 18 = .ok (.iconst 1, 1) := by decide +kernel
theorem dX7_advance_19 : decode cX7_advance 19 = .ok (.iadd, 1) := by decide +kernel
theorem dX7_advance_20 : decode cX7_advance 20 = .ok (.putfield 49, 3) := by decide +kernel
theorem dX7_advance_23 : decode cX7_advance 23 = .ok (.aload_n 0, 1) := by decide +kernel
theorem dX7_advance_24 : decode cX7_advance 24 = .ok (.aload_n 0, 1) := by decide +kernel
theorem dX7_advance_25 : decode cX7_advance 25 = .ok (.getfield 9, 3) := by decide +kernel
theorem dX7_advance_28 : decode cX7_advance 28 = .ok (.aload_n 0, 1) := by decide +kernel
theorem dX7_advance_29 : decode cX7_advance 29 = .ok (.getfield 49, 3) := by decide +kernel
theorem dX7_advance_32 : decode cX7_advance 32 = .ok (.iaload, 1) := by decide +kernel
theorem dX7_advance_33 : decode cX7_advance 33 = .ok (.putfield 52, 3) := by decide +kernel
theorem dX7_advance_36 : decode cX7_advance 36 = .ok (.aload_n 0, 1) := by decide +kernel
theorem dX7_advance_37 : decode cX7_advance 37 = .ok (.aload_n 0, 1) := by decide +kernel
theorem dX7_advance_38 : decode cX7_advance 38 = .ok (.getfield 15, 3) := by decide +kernel
theorem dX7_advance_4 : decode cX7_advance 4 = .ok (.iconst 1, 1) := by decide +kernel
theorem dX7_advance_41 : decode cX7_advance 41 = .ok (.aload_n 0, 1) := by decide +kernel
theorem dX7_advance_42 : decode cX7_advance 42 = .ok (.getfield 49, 3) := by decide +kernel
theorem dX7_advance_45 : decode cX7_advance 45 = .ok (.iaload, 1) := by decide +kernel
theorem dX7_advance_46 : decode cX7_advance 46 = .ok (.putfield 55, 3) := by decide +kernel
theorem dX7_advance_49 : decode cX7_advance 49 = .ok (.return_, 1) := by decide +kernel
theorem dX7_advance_5 : decode cX7_advance 5 = .ok (.iadd, 1) := by decide +kernel
theorem dX7_advance_6 : decode cX7_advance 6 = .ok (.aload_n 0, 1) := by decide +kernel
theorem dX7_advance_7 : decode cX7_advance 7 = .ok (.getfield 18, 3) := by decide +kernel
theorem dX7_append_0 : decode cX7_append 0 = .ok (.aload_n 0, 1) := by decide +kernel
theorem dX7_append_1 : decode cX7_append 1 = .ok (.getfield 18, 3) := by decide +kernel
theorem dX7_append_12 : decode cX7_append 12 = .ok (.aload_n 0, 1) := by decide +kernel
theorem dX7_append_13 : decode cX7_append 13 = .ok (.getfield 9, 3) := by decide +kernel
theorem dX7_append_16 : decode cX7_append 16 = .ok (.aload_n 0, 1) := by decide +kernel
theorem dX7_append_17 : decode cX7_append 17 = .ok (.getfield 18, 3) := by decide +kernel
theorem dX7_append_20 : decode cX7_append 20 = .ok (.iload_n 1, 1) := by decide +kernel
theorem dX7_append_21 : decode cX7_append 21 = .ok (.iastore, 1) := by decide +kernel
theorem dX7_append_22 : decode cX7_append 22 = .ok (.aload_n 0, 1) := by decide +kernel
theorem dX7_append_23 : decode cX7_append 23 = .ok (.getfield 15, 3) := by decide +kernel
theorem dX7_append_26 : decode cX7_append 26 = .ok (.aload_n 0, 1) := by decide +kernel
theorem dX7_append_27 : decode cX7_append 27 = .ok (.getfield 18, 3) := by decide +kernel
theorem dX7_append_30 : decode cX7_append 30 = .ok (.iload_n 2, 1) := by decide +kernel
theorem dX7_append_31 : decode cX7_append 31 = .ok (.iastore, 1) := by decide +kernel
theorem dX7_append_32 : decode cX7_append 32 = .ok (.aload_n 0, 1) := by decide +kernel
theorem dX7_append_33 : decode cX7_append 33 = .ok (.dup, 1) := by decide +kernel
theorem dX7_append_34 : decode cX7_append 34 = .ok (.getfield 18, 3) := by decide +kernel
theorem dX7_append_37 : decode cX7_append 37 = .ok (.iconst 1, 1) := by decide +kernel
theorem dX7_append_38 : decode cX7_append 38 = .ok (.iadd, 1) := by decide +kernel
theorem dX7_append_39 : decode cX7_append 39 = .ok (.putfield 18, 3) := by decide +kernel
theorem dX7_append_4 : decode cX7_append 4 = .ok (.aload_n 0, 1) := by decide +kernel
theorem dX7_append_42 : decode cX7_append 42 = .ok (.return_, 1) := by decide +kernel
theorem dX7_append_5 : decode cX7_append 5 = .ok (.getfield 9, 3) := by decide +kernel
theorem dX7_append_8 : decode cX7_append 8 = .ok (.arraylength, 1) := by decide +kernel
theorem dX7_append_9 : decode cX7_append 9 = .ok (.if_icmp .ge 33, 3) := by decide +kernel
theorem dX7_isNumber_0 : decode cX7_isNumber 0 = .ok (.aload_n 0, 1) := by decide +kernel
theorem dX7_isNumber_1 : decode cX7_isNumber 1 = .ok (.getfield 52, 3) := by decide +kernel
theorem dX7_isNumber_10 : decode cX7_isNumber 10 = .ok (.iconst 1, 1) := by decide +kernel
theorem dX7_isNumber_11 : decode cX7_isNumber 11 = .ok (.goto 4, 3) := by decide +kernel
theorem dX7_isNumber_14 : decode cX7_isNumber 14 = .ok (.iconst 0, 1) := by decide +kernel
theorem dX7_isNumber_15 : decode cX7_isNumber 15 = .ok (.ireturn, 1) := by decide +kernel
theorem dX7_isNumber_4 : decode cX7_isNumber 4 = .ok (.sipush 1000, 3) := by decide +kernel
theorem dX7_isNumber_7 : decode cX7_isNumber 7 = .ok (.if_icmp .lt 7, 3) := by decide +kernel
theorem dX7_isWithin_0 : decode cX7_isWithin 0 = .ok (.iload_n 0, 1) := by decide +kernel
theorem dX7_isWithin_1 : decode cX7_isWithin 1 = .ok (.iload_n 1, 1) := by decide +kernel
theorem dX7_isWithin_10 : decode cX7_isWithin 10 = .ok (.iconst 1, 1) := by decide +kernel
theorem dX7_isWithin_11 : decode cX7_isWithin 11 = .ok (.goto 4, 3) := by decide +kernel
theorem dX7_isWithin_14 : decode cX7_isWithin 14 = .ok (.iconst 0, 1) := by decide +kernel
theorem dX7_isWithin_15 : decode cX7_isWithin 15 = .ok (.ireturn, 1) := by decide +kernel
theorem dX7_isWithin_2 : decode cX7_isWithin 2 = .ok (.if_icmp .lt 12, 3) := by decide +kernel
theorem dX7_isWithin_5 : decode cX7_isWithin 5 = .ok (.iload_n 0, 1) := by decide +kernel
theorem dX7_isWithin_6 : decode cX7_isWithin 6 = .ok (.iload_n 2, 1) := by decide +kernel
theorem dX7_isWithin_7 : decode cX7_isWithin 7 = .ok (.if_icmp .gt 7, 3) := by decide +kernel
theorem dX7_numberAt_0 : decode cX7_numberAt 0 = .ok (.iconst 0, 1) := by decide +kernel
theorem dX7_numberAt_1 : decode cX7_numberAt 1 = .ok (.istore_n 3, 1) := by decide +kernel
theorem dX7_numberAt_11 : decode cX7_numberAt 11 = .ok (.bipush 10, 2) := by decide +kernel
theorem dX7_numberAt_13 : decode cX7_numberAt 13 = .ok (.iload_n 3, 1) := by decide +kernel
theorem dX7_numberAt_14 : decode cX7_numberAt 14 = .ok (.imul, 1) := by decide +kernel
theorem dX7_numberAt_15 : decode cX7_numberAt 15 = .ok (.aload_n 0, 1) := by decide +kernel
theorem dX7_numberAt_16 : decode cX7_numberAt 16 = .ok (.iload 4, 2) := by decide +kernel
theorem dX7_numberAt_18 : decode cX7_numberAt 18 = .ok (.baload, 1) := by decide +kernel
theorem dX7_numberAt_19 : decode cX7_numberAt 19 = .ok (.iadd, 1) := by decide +kernel
theorem dX7_numberAt_2 : decode cX7_numberAt 2 = .ok (.iload_n 1, 1) := by decide +kernel
theorem dX7_numberAt_20 : decode cX7_numberAt 20 = .ok (.bipush 48, 2) := by decide +kernel
theorem dX7_numberAt_22 : decode cX7_numberAt 22 = .ok (.isub, 1) := by decide +kernel
theorem dX7_numberAt_23 : decode cX7_numberAt 23 = .ok (.istore_n 3, 1) := by decide +kernel
theorem dX7_numberAt_24 : decode cX7_numberAt 24 = .ok (.iinc 4 1, 3) := by decide +kernel
theorem dX7_numberAt_27 : decode cX7_numberAt 27 = .ok (.goto (-22), 3) := by decide +kernel
theorem dX7_numberAt_3 : decode cX7_numberAt 3 = .ok (.istore 4, 2) := by decide +kernel
theorem dX7_numberAt_30 : decode cX7_numberAt 30 = .ok (.iload_n 3, 1) := by decide +kernel
theorem dX7_numberAt_31 : decode cX7_numberAt 31 = .ok (.ireturn, 1) := by decide +kernel
theorem dX7_numberAt_5 : decode cX7_numberAt 5 = .ok (.iload 4, 2) := by decide +kernel
theorem dX7_numberAt_7 : decode cX7_numberAt 7 = .ok (.iload_n 2, 1) := by decide +kernel
theorem dX7_numberAt_8 : decode cX7_numberAt 8 = .ok (.if_icmp .ge 22, 3) := by decide +kernel
theorem dX7_runEnd_0 : decode cX7_runEnd 0 = .ok (.iload_n 1, 1) := by decide +kernel
theorem dX7_runEnd_1 : decode cX7_runEnd 1 = .ok (.istore 5, 2) := by decide +kernel
theorem dX7_runEnd_10 : decode cX7_runEnd 10 = .ok (.iload 5, 2) := by decide +kernel
theorem dX7_runEnd_12 : decode cX7_runEnd 12 = .ok (.baload, 1) := by decide +kernel
theorem dX7_runEnd_13 : decode cX7_runEnd 13 = .ok (.iload_n 3, 1) := by decide +kernel
theorem dX7_runEnd_14 : decode cX7_runEnd 14 = .ok (.iload 4, 2) := by decide +kernel
theorem dX7_runEnd_16 : decode cX7_runEnd 16 = .ok (.invokestatic 22, 3) := by decide +kernel
theorem dX7_runEnd_19 : decode cX7_runEnd 19 = .ok (.ifCond .eq 9, 3) := by decide +kernel
theorem dX7_runEnd_22 : decode cX7_runEnd 22 = .ok (.iinc 5 1, 3) := by decide +kernel
theorem dX7_runEnd_25 : decode cX7_runEnd 25 = .ok (.goto (-22), 3) := by decide +kernel
theorem dX7_runEnd_28 : decode cX7_runEnd 28 = .ok (.iload 5, 2) := by decide +kernel
theorem dX7_runEnd_3 : decode cX7_runEnd 3 = .ok (.iload 5, 2) := by decide +kernel
theorem dX7_runEnd_30 : decode cX7_runEnd 30 = .ok (.ireturn, 1) := by decide +kernel
theorem dX7_runEnd_5 : decode cX7_runEnd 5 = .ok (.iload_n 2, 1) := by decide +kernel
theorem dX7_runEnd_6 : decode cX7_runEnd 6 = .ok (.if_icmp .ge 22, 3) := by decide +kernel
theorem dX7_runEnd_9 : decode cX7_runEnd 9 = .ok (.aload_n 0, 1) := by decide +kernel
theorem dX7_scan_0 : decode cX7_scan 0 = .ok (.aload_n 0, 1) := by decide +kernel
theorem dX7_scan_1 : decode cX7_scan 1 = .ok (.iconst 0, 1) := by decide +kernel
theorem dX7_scan_10 : decode cX7_scan 10 = .ok (.iconst 0, 1) := by decide +kernel
theorem dX7_scan_102 : decode cX7_scan 102 = .ok (.istore 7, 2) := by decide +kernel
theorem dX7_scan_104 : decode cX7_scan 104 = .ok (.iload 7, 2) := by decide +kernel
theorem dX7_scan_106 : decode cX7_scan 106 = .ok (.iload_n 3, 1) := by decide +kernel
theorem dX7_scan_107 : decode cX7_scan 107 = .ok (.isub, 1) := by decide +kernel
theorem dX7_scan_108 : decode cX7_scan 108 = .ok (.iconst 3, 1) := by decide +kernel
theorem dX7_scan_109 : decode cX7_scan 109 = .ok (.if_icmp .le 7, 3) := by decide +kernel
theorem dX7_scan_11 : decode cX7_scan 11 = .ok (.istore 5, 2) := by decide +kernel
theorem dX7_scan_112 : decode cX7_scan 112 = .ok (.iconst 1, 1) := by decide +kernel
theorem dX7_scan_113 : decode cX7_scan 113 = .ok (.goto 14, 3) := by decide +kernel
theorem dX7_scan_116 : decode cX7_scan 116 = .ok (.sipush 1000, 3) := by decide +kernel
theorem dX7_scan_119 : decode cX7_scan 119 = .ok (.aload_n 1, 1) := by decide +kernel
theorem dX7_scan_120 : decode cX7_scan 120 = .ok (.iload_n 3, 1) := by decide +kernel
theorem dX7_scan_121 : decode cX7_scan 121 = .ok (.iload 7, 2) := by decide +kernel
theorem dX7_scan_123 : decode cX7_scan 123 = .ok (.invokestatic 34, 3) := by decide +kernel
theorem dX7_scan_126 : decode cX7_scan 126 = .ok (.iadd, 1) := by decide +kernel
theorem dX7_scan_127 : decode cX7_scan 127 = .ok (.istore 4, 2) := by decide +kernel
theorem dX7_scan_129 : decode cX7_scan 129 = .ok (.goto 42, 3) := by decide +kernel
theorem dX7_scan_13 : decode cX7_scan 13 = .ok (.iload 5, 2) := by decide +kernel
theorem dX7_scan_132 : decode cX7_scan 132 = .ok (.iload 6, 2) := by decide +kernel
theorem dX7_scan_134 : decode cX7_scan 134 = .ok (.bipush 10, 2) := by decide +kernel
theorem dX7_scan_136 : decode cX7_scan 136 = .ok (.if_icmp .eq 10, 3) := by decide +kernel
theorem dX7_scan_139 : decode cX7_scan 139 = .ok (.iload 6, 2) := by decide +kernel
theorem dX7_scan_141 : decode cX7_scan 141 = .ok (.bipush 32, 2) := by decide +kernel
theorem dX7_scan_143 : decode cX7_scan 143 = .ok (.if_icmp .ne 9, 3) := by decide +kernel
theorem dX7_scan_146 : decode cX7_scan 146 = .ok (.iload 7, 2) := by decide +kernel
theorem dX7_scan_148 : decode cX7_scan 148 = .ok (.istore_n 3, 1) := by decide +kernel
theorem dX7_scan_149 : decode cX7_scan 149 = .ok (.goto 32, 3) := by decide +kernel
theorem dX7_scan_15 : decode cX7_scan 15 = .ok (.iload_n 2, 1) := by decide +kernel
theorem dX7_scan_152 : decode cX7_scan 152 = .ok (.ldc 37, 2) := by decide +kernel
theorem dX7_scan_154 : decode cX7_scan 154 = .ok (.iload 6, 2) := by decide +kernel
theorem dX7_scan_156 : decode cX7_scan 156 = .ok (.i2c, 1) := by decide +kernel
theorem dX7_scan_157 : decode cX7_scan 157 = .ok (.invokevirtual 39, 3) := by decide +kernel
theorem dX7_scan_16 : decode cX7_scan 16 = .ok (.if_icmp .ge 171, 3) := by decide +kernel
theorem dX7_scan_160 : decode cX7_scan 160 = .ok (.ifCond .lt 8, 3) := by decide +kernel
theorem dX7_scan_163 : decode cX7_scan 163 = .ok (.iload 6, 2) := by decide +kernel
theorem dX7_scan_165 : decode cX7_scan 165 = .ok (.goto 4, 3) := by decide +kernel
theorem dX7_scan_168 : decode cX7_scan 168 = .ok (.iconst 1, 1) := by decide +kernel
theorem dX7_scan_169 : decode cX7_scan 169 = .ok (.istore 4, 2) := by decide +kernel
theorem dX7_scan_171 : decode cX7_scan 171 = .ok (.aload_n 0, 1) := by decide +kernel
theorem dX7_scan_172 : decode cX7_scan 172 = .ok (.iload 4, 2) := by decide +kernel
theorem dX7_scan_174 : decode cX7_scan 174 = .ok (.iload_n 3, 1) := by decide +kernel
theorem dX7_scan_175 : decode cX7_scan 175 = .ok (.invokevirtual 45, 3) := by decide +kernel
theorem dX7_scan_178 : decode cX7_scan 178 = .ok (.iload 7, 2) := by decide +kernel
theorem dX7_scan_180 : decode cX7_scan 180 = .ok (.istore_n 3, 1) := by decide +kernel
theorem dX7_scan_181 : decode cX7_scan 181 = .ok (.iinc 5 1, 3) := by decide +kernel
theorem dX7_scan_184 : decode cX7_scan 184 = .ok (.goto (-171), 3) := by decide +kernel
theorem dX7_scan_187 : decode cX7_scan 187 = .ok (.iload 4, 2) := by decide +kernel
theorem dX7_scan_189 : decode cX7_scan 189 = .ok (.iconst 1, 1) := by decide +kernel
theorem dX7_scan_19 : decode cX7_scan 19 = .ok (.iload_n 3, 1) := by decide +kernel
theorem dX7_scan_190 : decode cX7_scan 190 = .ok (.if_icmp .eq 9, 3) := by decide +kernel
theorem dX7_scan_193 : decode cX7_scan 193 = .ok (.aload_n 0, 1) := by decide +kernel
theorem dX7_scan_194 : decode cX7_scan 194 = .ok (.iconst 0, 1) := by decide +kernel
theorem dX7_scan_195 : decode cX7_scan 195 = .ok (.iload_n 2, 1) := by decide +kernel
theorem dX7_scan_196 : decode cX7_scan 196 = .ok (.invokevirtual 45, 3) := by decide +kernel
theorem dX7_scan_199 : decode cX7_scan 199 = .ok (.aload_n 0, 1) := by decide +kernel
theorem dX7_scan_2 : decode cX7_scan 2 = .ok (.putfield 18, 3) := by decide +kernel
theorem dX7_scan_20 : decode cX7_scan 20 = .ok (.iload_n 2, 1) := by decide +kernel
theorem dX7_scan_200 : decode cX7_scan 200 = .ok (.iconst 0, 1) := by decide +kernel
theorem dX7_scan_201 : decode cX7_scan 201 = .ok (.putfield 49, 3) := by decide +kernel
theorem dX7_scan_204 : decode cX7_scan 204 = .ok (.aload_n 0, 1) := by decide +kernel
theorem dX7_scan_205 : decode cX7_scan 205 = .ok (.aload_n 0, 1) := by decide +kernel
theorem dX7_scan_206 : decode cX7_scan 206 = .ok (.getfield 9, 3) := by decide +kernel
theorem dX7_scan_209 : decode cX7_scan 209 = .ok (.iconst 0, 1) := by decide +kernel
theorem dX7_scan_21 : decode cX7_scan 21 = .ok (.if_icmp .ge 166, 3) := by decide +kernel
theorem dX7_scan_210 : decode cX7_scan 210 = .ok (.iaload, 1) := by decide +kernel
theorem dX7_scan_211 : decode cX7_scan 211 = .ok (.putfield 52, 3) := by decide +kernel
theorem dX7_scan_214 : decode cX7_scan 214 = .ok (.aload_n 0, 1) := by decide +kernel
theorem dX7_scan_215 : decode cX7_scan 215 = .ok (.aload_n 0, 1) := by decide +kernel
theorem dX7_scan_216 : decode cX7_scan 216 = .ok (.getfield 15, 3) := by decide +kernel
theorem dX7_scan_219 : decode cX7_scan 219 = .ok (.iconst 0, 1) := by decide +kernel
theorem dX7_scan_220 : decode cX7_scan 220 = .ok (.iaload, 1) := by decide +kernel
theorem dX7_scan_221 : decode cX7_scan 221 = .ok (.putfield 55, 3) := by decide +kernel
theorem dX7_scan_224 : decode cX7_scan 224 = .ok (.return_, 1) := by decide +kernel
theorem dX7_scan_24 : decode cX7_scan 24 = .ok (.iload 4, 2) := by decide +kernel
theorem dX7_scan_26 : decode cX7_scan 26 = .ok (.iconst 1, 1) := by decide +kernel
theorem dX7_scan_27 : decode cX7_scan 27 = .ok (.if_icmp .eq 160, 3) := by decide +kernel
theorem dX7_scan_30 : decode cX7_scan 30 = .ok (.aload_n 1, 1) := by decide +kernel
theorem dX7_scan_31 : decode cX7_scan 31 = .ok (.iload_n 3, 1) := by decide +kernel
theorem dX7_scan_32 : decode cX7_scan 32 = .ok (.baload, 1) := by decide +kernel
theorem dX7_scan_33 : decode cX7_scan 33 = .ok (.sipush 255, 3) := by decide +kernel
theorem dX7_scan_36 : decode cX7_scan 36 = .ok (.iand, 1) := by decide +kernel
theorem dX7_scan_37 : decode cX7_scan 37 = .ok (.istore 6, 2) := by decide +kernel
theorem dX7_scan_39 : decode cX7_scan 39 = .ok (.iload_n 3, 1) := by decide +kernel
theorem dX7_scan_40 : decode cX7_scan 40 = .ok (.iconst 1, 1) := by decide +kernel
theorem dX7_scan_41 : decode cX7_scan 41 = .ok (.iadd, 1) := by decide +kernel
theorem dX7_scan_42 : decode cX7_scan 42 = .ok (.istore 7, 2) := by decide +kernel
theorem dX7_scan_44 : decode cX7_scan 44 = .ok (.iload 6, 2) := by decide +kernel
theorem dX7_scan_46 : decode cX7_scan 46 = .ok (.bipush 97, 2) := by decide +kernel
theorem dX7_scan_48 : decode cX7_scan 48 = .ok (.bipush 122, 2) := by decide +kernel
theorem dX7_scan_5 : decode cX7_scan 5 = .ok (.iconst 0, 1) := by decide +kernel
theorem dX7_scan_50 : decode cX7_scan 50 = .ok (.invokestatic 22, 3) := by decide +kernel
theorem dX7_scan_53 : decode cX7_scan 53 = .ok (.ifCond .eq 27, 3) := by decide +kernel
theorem dX7_scan_56 : decode cX7_scan 56 = .ok (.aload_n 1, 1) := by decide +kernel
theorem dX7_scan_57 : decode cX7_scan 57 = .ok (.iload_n 3, 1) := by decide +kernel
theorem dX7_scan_58 : decode cX7_scan 58 = .ok (.iload_n 2, 1) := by decide +kernel
theorem dX7_scan_59 : decode cX7_scan 59 = .ok (.bipush 97, 2) := by decide +kernel
theorem dX7_scan_6 : decode cX7_scan 6 = .ok (.istore_n 3, 1) := by decide +kernel
theorem dX7_scan_61 : decode cX7_scan 61 = .ok (.bipush 122, 2) := by decide +kernel
theorem dX7_scan_63 : decode cX7_scan 63 = .ok (.invokestatic 26, 3) := by decide +kernel
theorem dX7_scan_66 : decode cX7_scan 66 = .ok (.istore 7, 2) := by decide +kernel
theorem dX7_scan_68 : decode cX7_scan 68 = .ok (.aload_n 1, 1) := by decide +kernel
theorem dX7_scan_69 : decode cX7_scan 69 = .ok (.iload_n 3, 1) := by decide +kernel
theorem dX7_scan_7 : decode cX7_scan 7 = .ok (.iconst (-1), 1) := by decide +kernel
theorem dX7_scan_70 : decode cX7_scan 70 = .ok (.iload 7, 2) := by decide +kernel
theorem dX7_scan_72 : decode cX7_scan 72 = .ok (.invokestatic 30, 3) := by decide +kernel
theorem dX7_scan_75 : decode cX7_scan 75 = .ok (.istore 4, 2) := by decide +kernel
theorem dX7_scan_77 : decode cX7_scan 77 = .ok (.goto 94, 3) := by decide +kernel
theorem dX7_scan_8 : decode cX7_scan 8 = .ok (.istore 4, 2) := by decide +kernel
theorem dX7_scan_80 : decode cX7_scan 80 = .ok (.iload 6, 2) := by decide +kernel
theorem dX7_scan_82 : decode cX7_scan 82 = .ok (.bipush 48, 2) := by decide +kernel
theorem dX7_scan_84 : decode cX7_scan 84 = .ok (.bipush 57, 2) := by decide +kernel
theorem dX7_scan_86 : decode cX7_scan 86 = .ok (.invokestatic 22, 3) := by decide +kernel
theorem dX7_scan_89 : decode cX7_scan 89 = .ok (.ifCond .eq 43, 3) := by decide +kernel
theorem dX7_scan_92 : decode cX7_scan 92 = .ok (.aload_n 1, 1) := by decide +kernel
theorem dX7_scan_93 : decode cX7_scan 93 = .ok (.iload_n 3, 1) := by decide +kernel
theorem dX7_scan_94 : decode cX7_scan 94 = .ok (.iload_n 2, 1) := by decide +kernel
theorem dX7_scan_95 : decode cX7_scan 95 = .ok (.bipush 48, 2) := by decide +kernel
theorem dX7_scan_97 : decode cX7_scan 97 = .ok (.bipush 57, 2) := by decide +kernel
theorem dX7_scan_99 : decode cX7_scan 99 = .ok (.invokestatic 26, 3) := by decide +kernel
theorem dX7_stop_0 : decode cX7_stop 0 = .ok (.aload_n 0, 1) := by decide +kernel
theorem dX7_stop_1 : decode cX7_stop 1 = .ok (.iconst 0, 1) := by decide +kernel
theorem dX7_stop_10 : decode cX7_stop 10 = .ok (.return_, 1) := by decide +kernel
theorem dX7_stop_2 : decode cX7_stop 2 = .ok (.putfield 18, 3) := by decide +kernel
theorem dX7_stop_5 : decode cX7_stop 5 = .ok (.aload_n 0, 1) := by decide +kernel
theorem dX7_stop_6 : decode cX7_stop 6 = .ok (.iconst 1, 1) := by decide +kernel
theorem dX7_stop_7 : decode cX7_stop 7 = .ok (.putfield 52, 3) := by decide +kernel
theorem dX7_wordKind_0 : decode cX7_wordKind 0 = .ok (.sipush 200, 3) := by decide +kernel
theorem dX7_wordKind_10 : decode cX7_wordKind 10 = .ok (.iconst 0, 1) := by decide +kernel
theorem dX7_wordKind_100 : decode cX7_wordKind 100 = .ok (.sipush 199, 3) := by decide +kernel
theorem dX7_wordKind_103 : decode cX7_wordKind 103 = .ok (.ireturn, 1) := by decide +kernel
theorem dX7_wordKind_11 : decode cX7_wordKind 11 = .ok (.istore 6, 2) := by decide +kernel
theorem dX7_wordKind_13 : decode cX7_wordKind 13 = .ok (.iload 6, 2) := by decide +kernel
theorem dX7_wordKind_15 : decode cX7_wordKind 15 = .ok (.ldc 58, 2) := by decide +kernel
theorem dX7_wordKind_17 : decode cX7_wordKind 17 = .ok (.invokevirtual 60, 3) := by decide +kernel
theorem dX7_wordKind_20 : decode cX7_wordKind 20 = .ok (.if_icmp .ge 80, 3) := by decide +kernel
theorem dX7_wordKind_23 : decode cX7_wordKind 23 = .ok (.ldc 58, 2) := by decide +kernel
theorem dX7_wordKind_25 : decode cX7_wordKind 25 = .ok (.iload 6, 2) := by decide +kernel
theorem dX7_wordKind_27 : decode cX7_wordKind 27 = .ok (.invokevirtual 64, 3) := by decide +kernel
theorem dX7_wordKind_3 : decode cX7_wordKind 3 = .ok (.istore_n 3, 1) := by decide +kernel
theorem dX7_wordKind_30 : decode cX7_wordKind 30 = .ok (.istore 7, 2) := by decide +kernel
theorem dX7_wordKind_32 : decode cX7_wordKind 32 = .ok (.iload 7, 2) := by decide +kernel
theorem dX7_wordKind_34 : decode cX7_wordKind 34 = .ok (.bipush 32, 2) := by decide +kernel
theorem dX7_wordKind_36 : decode cX7_wordKind 36 = .ok (.if_icmp .eq 36, 3) := by decide +kernel
theorem dX7_wordKind_39 : decode cX7_wordKind 39 = .ok (.iload 5, 2) := by decide +kernel
theorem dX7_wordKind_4 : decode cX7_wordKind 4 = .ok (.iload_n 1, 1) := by decide +kernel
theorem dX7_wordKind_41 : decode cX7_wordKind 41 = .ok (.ifCond .eq 22, 3) := by decide +kernel
theorem dX7_wordKind_44 : decode cX7_wordKind 44 = .ok (.iload 4, 2) := by decide +kernel
theorem dX7_wordKind_46 : decode cX7_wordKind 46 = .ok (.iload_n 2, 1) := by decide +kernel
theorem dX7_wordKind_47 : decode cX7_wordKind 47 = .ok (.if_icmp .ge 16, 3) := by decide +kernel
theorem dX7_wordKind_5 : decode cX7_wordKind 5 = .ok (.istore 4, 2) := by decide +kernel
theorem dX7_wordKind_50 : decode cX7_wordKind 50 = .ok (.aload_n 0, 1) := by decide +kernel
theorem dX7_wordKind_51 : decode cX7_wordKind 51 = .ok (.iload 4, 2) := by decide +kernel
theorem dX7_wordKind_53 : decode cX7_wordKind 53 = .ok (.baload, 1) := by decide +kernel
theorem dX7_wordKind_54 : decode cX7_wordKind 54 = .ok (.iload 7, 2) := by decide +kernel
theorem dX7_wordKind_56 : decode cX7_wordKind 56 = .ok (.if_icmp .ne 7, 3) := by decide +kernel
theorem dX7_wordKind_59 : decode cX7_wordKind 59 = .ok (.iconst 1, 1) := by decide +kernel
theorem dX7_wordKind_60 : decode cX7_wordKind 60 = .ok (.goto 4, 3) := by decide +kernel
theorem dX7_wordKind_63 : decode cX7_wordKind 63 = .ok (.iconst 0, 1) := by decide +kernel
theorem dX7_wordKind_64 : decode cX7_wordKind 64 = .ok (.istore 5, 2) := by decide +kernel
theorem dX7_wordKind_66 : decode cX7_wordKind 66 = .ok (.iinc 4 1, 3) := by decide +kernel
theorem dX7_wordKind_69 : decode cX7_wordKind 69 = .ok (.goto 25, 3) := by decide +kernel
theorem dX7_wordKind_7 : decode cX7_wordKind 7 = .ok (.iconst 1, 1) := by decide +kernel
theorem dX7_wordKind_72 : decode cX7_wordKind 72 = .ok (.iload 5, 2) := by decide +kernel
theorem dX7_wordKind_74 : decode cX7_wordKind 74 = .ok (.ifCond .eq 11, 3) := by decide +kernel
theorem dX7_wordKind_77 : decode cX7_wordKind 77 = .ok (.iload 4, 2) := by decide +kernel
theorem dX7_wordKind_79 : decode cX7_wordKind 79 = .ok (.iload_n 2, 1) := by decide +kernel
theorem dX7_wordKind_8 : decode cX7_wordKind 8 = .ok (.istore 5, 2) := by decide +kernel
theorem dX7_wordKind_80 : decode cX7_wordKind 80 = .ok (.if_icmp .ne 5, 3) := by decide +kernel
theorem dX7_wordKind_83 : decode cX7_wordKind 83 = .ok (.iload_n 3, 1) := by decide +kernel
theorem dX7_wordKind_84 : decode cX7_wordKind 84 = .ok (.ireturn, 1) := by decide +kernel
theorem dX7_wordKind_85 : decode cX7_wordKind 85 = .ok (.iinc 3 1, 3) := by decide +kernel
theorem dX7_wordKind_88 : decode cX7_wordKind 88 = .ok (.iload_n 1, 1) := by decide +kernel
theorem dX7_wordKind_89 : decode cX7_wordKind 89 = .ok (.istore 4, 2) := by decide +kernel
theorem dX7_wordKind_91 : decode cX7_wordKind 91 = .ok (.iconst 1, 1) := by decide +kernel
theorem dX7_wordKind_92 : decode cX7_wordKind 92 = .ok (.istore 5, 2) := by decide +kernel
theorem dX7_wordKind_94 : decode cX7_wordKind 94 = .ok (.iinc 6 1, 3) := by decide +kernel
theorem dX7_wordKind_97 : decode cX7_wordKind 97 = .ok (.goto (-84), 3) := by decide +kernel
