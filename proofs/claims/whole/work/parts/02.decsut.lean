theorem dJ0_length_8abf5_0 : decode cJ0_length_8abf5 0 = .ok (.aload_n 0, 1) := by decide +kernel
theorem dJ0_length_8abf5_1 : decode cJ0_length_8abf5 1 = .ok (.getfield 9, 3) := by decide +kernel
theorem dJ0_length_8abf5_4 : decode cJ0_length_8abf5 4 = .ok (.arraylength, 1) := by decide +kernel
theorem dJ0_length_8abf5_5 : decode cJ0_length_8abf5 5 = .ok (.aload_n 0, 1) := by decide +kernel
theorem dJ0_length_8abf5_6 : decode cJ0_length_8abf5 6 = .ok (.invokevirtual 335, 3) := by decide +kernel
theorem dJ0_length_8abf5_9 : decode cJ0_length_8abf5 9 = .ok (.ishr, 1) := by decide +kernel
theorem dJ0_length_8abf5_10 : decode cJ0_length_8abf5 10 = .ok (.ireturn, 1) := by decide +kernel
theorem dJ0_charAt_5068e_0 : decode cJ0_charAt_5068e 0 = .ok (.aload_n 0, 1) := by decide +kernel
theorem dJ0_charAt_5068e_1 : decode cJ0_charAt_5068e 1 = .ok (.invokevirtual 492, 3) := by decide +kernel
theorem dJ0_charAt_5068e_4 : decode cJ0_charAt_5068e 4 = .ok (.ifCond .eq 12, 3) := by decide +kernel
theorem dJ0_charAt_5068e_7 : decode cJ0_charAt_5068e 7 = .ok (.aload_n 0, 1) := by decide +kernel
theorem dJ0_charAt_5068e_8 : decode cJ0_charAt_5068e 8 = .ok (.getfield 9, 3) := by decide +kernel
theorem dJ0_charAt_5068e_11 : decode cJ0_charAt_5068e 11 = .ok (.iload_n 1, 1) := by decide +kernel
theorem dJ0_charAt_5068e_12 : decode cJ0_charAt_5068e 12 = .ok (.invokestatic 495, 3) := by decide +kernel
theorem dJ0_charAt_5068e_15 : decode cJ0_charAt_5068e 15 = .ok (.ireturn, 1) := by decide +kernel
theorem dJ0_charAt_5068e_16 : decode cJ0_charAt_5068e 16 = .ok (.aload_n 0, 1) := by decide +kernel
theorem dJ0_charAt_5068e_17 : decode cJ0_charAt_5068e 17 = .ok (.getfield 9, 3) := by decide +kernel
theorem dJ0_charAt_5068e_20 : decode cJ0_charAt_5068e 20 = .ok (.iload_n 1, 1) := by decide +kernel
theorem dJ0_charAt_5068e_21 : decode cJ0_charAt_5068e 21 = .ok (.invokestatic 498, 3) := by decide +kernel
theorem dJ0_charAt_5068e_24 : decode cJ0_charAt_5068e 24 = .ok (.ireturn, 1) := by decide +kernel
theorem dJ0_coder_7d493_0 : decode cJ0_coder_7d493 0 = .ok (.getstatic 38, 3) := by decide +kernel
theorem dJ0_coder_7d493_3 : decode cJ0_coder_7d493 3 = .ok (.ifCond .eq 10, 3) := by decide +kernel
theorem dJ0_coder_7d493_6 : decode cJ0_coder_7d493 6 = .ok (.aload_n 0, 1) := by decide +kernel
theorem dJ0_coder_7d493_7 : decode cJ0_coder_7d493 7 = .ok (.getfield 15, 3) := by decide +kernel
theorem dJ0_coder_7d493_10 : decode cJ0_coder_7d493 10 = .ok (.goto 4, 3) := by decide +kernel
theorem dJ0_coder_7d493_13 : decode cJ0_coder_7d493 13 = .ok (.iconst 1, 1) := by decide +kernel
theorem dJ0_coder_7d493_14 : decode cJ0_coder_7d493 14 = .ok (.ireturn, 1) := by decide +kernel
theorem dJ0_isLatin1_aae02_0 : decode cJ0_isLatin1_aae02 0 = .ok (.getstatic 38, 3) := by decide +kernel
theorem dJ0_isLatin1_aae02_3 : decode cJ0_isLatin1_aae02 3 = .ok (.ifCond .eq 14, 3) := by decide +kernel
theorem dJ0_isLatin1_aae02_6 : decode cJ0_isLatin1_aae02 6 = .ok (.aload_n 0, 1) := by decide +kernel
theorem dJ0_isLatin1_aae02_7 : decode cJ0_isLatin1_aae02 7 = .ok (.getfield 15, 3) := by decide +kernel
theorem dJ0_isLatin1_aae02_10 : decode cJ0_isLatin1_aae02 10 = .ok (.ifCond .ne 7, 3) := by decide +kernel
theorem dJ0_isLatin1_aae02_13 : decode cJ0_isLatin1_aae02 13 = .ok (.iconst 1, 1) := by decide +kernel
theorem dJ0_isLatin1_aae02_14 : decode cJ0_isLatin1_aae02 14 = .ok (.goto 4, 3) := by decide +kernel
theorem dJ0_isLatin1_aae02_17 : decode cJ0_isLatin1_aae02 17 = .ok (.iconst 0, 1) := by decide +kernel
theorem dJ0_isLatin1_aae02_18 : decode cJ0_isLatin1_aae02 18 = .ok (.ireturn, 1) := by decide +kernel
theorem dJ0_checkIndex_df160_0 : decode cJ0_checkIndex_df160 0 = .ok (.iload_n 0, 1) := by decide +kernel
theorem dJ0_checkIndex_df160_1 : decode cJ0_checkIndex_df160 1 = .ok (.iload_n 1, 1) := by decide +kernel
theorem dJ0_checkIndex_df160_2 : decode cJ0_checkIndex_df160 2 = .ok (.getstatic 1053, 3) := by decide +kernel
theorem dJ0_checkIndex_df160_5 : decode cJ0_checkIndex_df160 5 = .ok (.invokestatic 1059, 3) := by decide +kernel
theorem dJ0_checkIndex_df160_8 : decode cJ0_checkIndex_df160 8 = .ok (.pop, 1) := by decide +kernel
theorem dJ0_checkIndex_df160_9 : decode cJ0_checkIndex_df160 9 = .ok (.return_, 1) := by decide +kernel
theorem dJ1_charAt_3b067_0 : decode cJ1_charAt_3b067 0 = .ok (.iload_n 1, 1) := by decide +kernel
theorem dJ1_charAt_3b067_1 : decode cJ1_charAt_3b067 1 = .ok (.aload_n 0, 1) := by decide +kernel
theorem dJ1_charAt_3b067_2 : decode cJ1_charAt_3b067 2 = .ok (.arraylength, 1) := by decide +kernel
theorem dJ1_charAt_3b067_3 : decode cJ1_charAt_3b067 3 = .ok (.invokestatic 9, 3) := by decide +kernel
theorem dJ1_charAt_3b067_6 : decode cJ1_charAt_3b067 6 = .ok (.aload_n 0, 1) := by decide +kernel
theorem dJ1_charAt_3b067_7 : decode cJ1_charAt_3b067 7 = .ok (.iload_n 1, 1) := by decide +kernel
theorem dJ1_charAt_3b067_8 : decode cJ1_charAt_3b067 8 = .ok (.baload, 1) := by decide +kernel
theorem dJ1_charAt_3b067_9 : decode cJ1_charAt_3b067 9 = .ok (.sipush 255, 3) := by decide +kernel
theorem dJ1_charAt_3b067_12 : decode cJ1_charAt_3b067 12 = .ok (.iand, 1) := by decide +kernel
theorem dJ1_charAt_3b067_13 : decode cJ1_charAt_3b067 13 = .ok (.i2c, 1) := by decide +kernel
theorem dJ1_charAt_3b067_14 : decode cJ1_charAt_3b067 14 = .ok (.ireturn, 1) := by decide +kernel
theorem dJ3_checkIndex_8e157_0 : decode cJ3_checkIndex_8e157 0 = .ok (.iload_n 0, 1) := by decide +kernel
theorem dJ3_checkIndex_8e157_1 : decode cJ3_checkIndex_8e157 1 = .ok (.ifCond .lt 8, 3) := by decide +kernel
theorem dJ3_checkIndex_8e157_4 : decode cJ3_checkIndex_8e157 4 = .ok (.iload_n 0, 1) := by decide +kernel
theorem dJ3_checkIndex_8e157_5 : decode cJ3_checkIndex_8e157 5 = .ok (.iload_n 1, 1) := by decide +kernel
theorem dJ3_checkIndex_8e157_6 : decode cJ3_checkIndex_8e157 6 = .ok (.if_icmp .lt 10, 3) := by decide +kernel
theorem dJ3_checkIndex_8e157_9 : decode cJ3_checkIndex_8e157 9 = .ok (.aload_n 2, 1) := by decide +kernel
theorem dJ3_checkIndex_8e157_10 : decode cJ3_checkIndex_8e157 10 = .ok (.iload_n 0, 1) := by decide +kernel
theorem dJ3_checkIndex_8e157_11 : decode cJ3_checkIndex_8e157 11 = .ok (.iload_n 1, 1) := by decide +kernel
theorem dJ3_checkIndex_8e157_12 : decode cJ3_checkIndex_8e157 12 = .ok (.invokestatic 95, 3) := by decide +kernel
theorem dJ3_checkIndex_8e157_15 : decode cJ3_checkIndex_8e157 15 = .ok (.athrow, 1) := by decide +kernel
theorem dJ3_checkIndex_8e157_16 : decode cJ3_checkIndex_8e157 16 = .ok (.iload_n 0, 1) := by decide +kernel
theorem dJ3_checkIndex_8e157_17 : decode cJ3_checkIndex_8e157 17 = .ok (.ireturn, 1) := by decide +kernel
theorem dJ9_abs_0f7a4_0 : decode cJ9_abs_0f7a4 0 = .ok (.iload_n 0, 1) := by decide +kernel
theorem dJ9_abs_0f7a4_1 : decode cJ9_abs_0f7a4 1 = .ok (.ifCond .ge 8, 3) := by decide +kernel
theorem dJ9_abs_0f7a4_4 : decode cJ9_abs_0f7a4 4 = .ok (.iload_n 0, 1) := by decide +kernel
theorem dJ9_abs_0f7a4_5 : decode cJ9_abs_0f7a4 5 = .ok (.ineg, 1) := by decide +kernel
theorem dJ9_abs_0f7a4_6 : decode cJ9_abs_0f7a4 6 = .ok (.goto 4, 3) := by decide +kernel
theorem dJ9_abs_0f7a4_9 : decode cJ9_abs_0f7a4 9 = .ok (.iload_n 0, 1) := by decide +kernel
theorem dJ9_abs_0f7a4_10 : decode cJ9_abs_0f7a4 10 = .ok (.ireturn, 1) := by decide +kernel
theorem dJ9_max_7cf53_0 : decode cJ9_max_7cf53 0 = .ok (.iload_n 0, 1) := by decide +kernel
theorem dJ9_max_7cf53_1 : decode cJ9_max_7cf53 1 = .ok (.iload_n 1, 1) := by decide +kernel
theorem dJ9_max_7cf53_2 : decode cJ9_max_7cf53 2 = .ok (.if_icmp .lt 7, 3) := by decide +kernel
theorem dJ9_max_7cf53_5 : decode cJ9_max_7cf53 5 = .ok (.iload_n 0, 1) := by decide +kernel
theorem dJ9_max_7cf53_6 : decode cJ9_max_7cf53 6 = .ok (.goto 4, 3) := by decide +kernel
theorem dJ9_max_7cf53_9 : decode cJ9_max_7cf53 9 = .ok (.iload_n 1, 1) := by decide +kernel
theorem dJ9_max_7cf53_10 : decode cJ9_max_7cf53 10 = .ok (.ireturn, 1) := by decide +kernel
theorem dJ9_min_7cf53_0 : decode cJ9_min_7cf53 0 = .ok (.iload_n 0, 1) := by decide +kernel
theorem dJ9_min_7cf53_1 : decode cJ9_min_7cf53 1 = .ok (.iload_n 1, 1) := by decide +kernel
theorem dJ9_min_7cf53_2 : decode cJ9_min_7cf53 2 = .ok (.if_icmp .gt 7, 3) := by decide +kernel
theorem dJ9_min_7cf53_5 : decode cJ9_min_7cf53 5 = .ok (.iload_n 0, 1) := by decide +kernel
theorem dJ9_min_7cf53_6 : decode cJ9_min_7cf53 6 = .ok (.goto 4, 3) := by decide +kernel
theorem dJ9_min_7cf53_9 : decode cJ9_min_7cf53 9 = .ok (.iload_n 1, 1) := by decide +kernel
theorem dJ9_min_7cf53_10 : decode cJ9_min_7cf53 10 = .ok (.ireturn, 1) := by decide +kernel
theorem dX0_init_0 : decode cX0_init 0 = .ok (.aload_n 0, 1) := by decide +kernel
theorem dX0_init_1 : decode cX0_init 1 = .ok (.invokespecial 3, 3) := by decide +kernel
theorem dX0_init_4 : decode cX0_init 4 = .ok (.aload_n 0, 1) := by decide +kernel
theorem dX0_init_5 : decode cX0_init 5 = .ok (.sipush 316, 3) := by decide +kernel
theorem dX0_init_8 : decode cX0_init 8 = .ok (.newarray .int, 2) := by decide +kernel
theorem dX0_init_10 : decode cX0_init 10 = .ok (.putfield 11, 3) := by decide +kernel
theorem dX0_init_13 : decode cX0_init 13 = .ok (.aload_n 0, 1) := by decide +kernel
theorem dX0_init_14 : decode cX0_init 14 = .ok (.iconst 0, 1) := by decide +kernel
theorem dX0_init_15 : decode cX0_init 15 = .ok (.putfield 17, 3) := by decide +kernel
theorem dX0_init_18 : decode cX0_init 18 = .ok (.return_, 1) := by decide +kernel
theorem dX0_states_0 : decode cX0_states 0 = .ok (.aload_n 0, 1) := by decide +kernel
theorem dX0_states_1 : decode cX0_states 1 = .ok (.getfield 17, 3) := by decide +kernel
theorem dX0_states_4 : decode cX0_states 4 = .ok (.ireturn, 1) := by decide +kernel
theorem dX0_keep_0 : decode cX0_keep 0 = .ok (.aload_n 0, 1) := by decide +kernel
theorem dX0_keep_1 : decode cX0_keep 1 = .ok (.getfield 17, 3) := by decide +kernel
theorem dX0_keep_4 : decode cX0_keep 4 = .ok (.iconst 4, 1) := by decide +kernel
theorem dX0_keep_5 : decode cX0_keep 5 = .ok (.if_icmp .lt 25, 3) := by decide +kernel
theorem dX0_keep_8 : decode cX0_keep 8 = .ok (.aload_n 0, 1) := by decide +kernel
theorem dX0_keep_9 : decode cX0_keep 9 = .ok (.getfield 11, 3) := by decide +kernel
theorem dX0_keep_12 : decode cX0_keep 12 = .ok (.bipush 79, 2) := by decide +kernel
theorem dX0_keep_14 : decode cX0_keep 14 = .ok (.aload_n 0, 1) := by decide +kernel
theorem dX0_keep_15 : decode cX0_keep 15 = .ok (.getfield 11, 3) := by decide +kernel
theorem dX0_keep_18 : decode cX0_keep 18 = .ok (.iconst 0, 1) := by decide +kernel
theorem dX0_keep_19 : decode cX0_keep 19 = .ok (.sipush 237, 3) := by decide +kernel
theorem dX0_keep_22 : decode cX0_keep 22 = .ok (.invokestatic 21, 3) := by decide +kernel
theorem dX0_keep_25 : decode cX0_keep 25 = .ok (.aload_n 0, 1) := by decide +kernel
theorem dX0_keep_26 : decode cX0_keep 26 = .ok (.iconst 3, 1) := by decide +kernel
theorem dX0_keep_27 : decode cX0_keep 27 = .ok (.putfield 17, 3) := by decide +kernel
theorem dX0_keep_30 : decode cX0_keep 30 = .ok (.aload_n 1, 1) := by decide +kernel
theorem dX0_keep_31 : decode cX0_keep 31 = .ok (.aload_n 0, 1) := by decide +kernel
theorem dX0_keep_32 : decode cX0_keep 32 = .ok (.getfield 11, 3) := by decide +kernel
theorem dX0_keep_35 : decode cX0_keep 35 = .ok (.aload_n 0, 1) := by decide +kernel
theorem dX0_keep_36 : decode cX0_keep 36 = .ok (.getfield 17, 3) := by decide +kernel
theorem dX0_keep_39 : decode cX0_keep 39 = .ok (.bipush 79, 2) := by decide +kernel
theorem dX0_keep_41 : decode cX0_keep 41 = .ok (.imul, 1) := by decide +kernel
theorem dX0_keep_42 : decode cX0_keep 42 = .ok (.invokevirtual 27, 3) := by decide +kernel
theorem dX0_keep_45 : decode cX0_keep 45 = .ok (.aload_n 0, 1) := by decide +kernel
theorem dX0_keep_46 : decode cX0_keep 46 = .ok (.dup, 1) := by decide +kernel
theorem dX0_keep_47 : decode cX0_keep 47 = .ok (.getfield 17, 3) := by decide +kernel
theorem dX0_keep_50 : decode cX0_keep 50 = .ok (.iconst 1, 1) := by decide +kernel
theorem dX0_keep_51 : decode cX0_keep 51 = .ok (.iadd, 1) := by decide +kernel
theorem dX0_keep_52 : decode cX0_keep 52 = .ok (.putfield 17, 3) := by decide +kernel
theorem dX0_keep_55 : decode cX0_keep 55 = .ok (.return_, 1) := by decide +kernel
theorem dX0_takeLatest_0 : decode cX0_takeLatest 0 = .ok (.aload_n 0, 1) := by decide +kernel
theorem dX0_takeLatest_1 : decode cX0_takeLatest 1 = .ok (.getfield 17, 3) := by decide +kernel
theorem dX0_takeLatest_4 : decode cX0_takeLatest 4 = .ok (.ifCond .le 28, 3) := by decide +kernel
theorem dX0_takeLatest_7 : decode cX0_takeLatest 7 = .ok (.aload_n 0, 1) := by decide +kernel
theorem dX0_takeLatest_8 : decode cX0_takeLatest 8 = .ok (.dup, 1) := by decide +kernel
theorem dX0_takeLatest_9 : decode cX0_takeLatest 9 = .ok (.getfield 17, 3) := by decide +kernel
theorem dX0_takeLatest_12 : decode cX0_takeLatest 12 = .ok (.iconst 1, 1) := by decide +kernel
theorem dX0_takeLatest_13 : decode cX0_takeLatest 13 = .ok (.isub, 1) := by decide +kernel
theorem dX0_takeLatest_14 : decode cX0_takeLatest 14 = .ok (.putfield 17, 3) := by decide +kernel
theorem dX0_takeLatest_17 : decode cX0_takeLatest 17 = .ok (.aload_n 1, 1) := by decide +kernel
theorem dX0_takeLatest_18 : decode cX0_takeLatest 18 = .ok (.aload_n 0, 1) := by decide +kernel
theorem dX0_takeLatest_19 : decode cX0_takeLatest 19 = .ok (.getfield 11, 3) := by decide +kernel
theorem dX0_takeLatest_22 : decode cX0_takeLatest 22 = .ok (.aload_n 0, 1) := by decide +kernel
theorem dX0_takeLatest_23 : decode cX0_takeLatest 23 = .ok (.getfield 17, 3) := by decide +kernel
theorem dX0_takeLatest_26 : decode cX0_takeLatest 26 = .ok (.bipush 79, 2) := by decide +kernel
theorem dX0_takeLatest_28 : decode cX0_takeLatest 28 = .ok (.imul, 1) := by decide +kernel
theorem dX0_takeLatest_29 : decode cX0_takeLatest 29 = .ok (.invokevirtual 31, 3) := by decide +kernel
theorem dX0_takeLatest_32 : decode cX0_takeLatest 32 = .ok (.return_, 1) := by decide +kernel
theorem dX1_init_0 : decode cX1_init 0 = .ok (.aload_n 0, 1) := by decide +kernel
theorem dX1_init_1 : decode cX1_init 1 = .ok (.invokespecial 5, 3) := by decide +kernel
theorem dX1_init_4 : decode cX1_init 4 = .ok (.aload_n 0, 1) := by decide +kernel
theorem dX1_init_5 : decode cX1_init 5 = .ok (.bipush 79, 2) := by decide +kernel
theorem dX1_init_7 : decode cX1_init 7 = .ok (.newarray .int, 2) := by decide +kernel
theorem dX1_init_9 : decode cX1_init 9 = .ok (.putfield 11, 3) := by decide +kernel
theorem dX1_init_12 : decode cX1_init 12 = .ok (.aload_n 0, 1) := by decide +kernel
theorem dX1_init_13 : decode cX1_init 13 = .ok (.getfield 11, 3) := by decide +kernel
theorem dX1_init_16 : decode cX1_init 16 = .ok (.iconst 2, 1) := by decide +kernel
theorem dX1_init_17 : decode cX1_init 17 = .ok (.bipush 6, 2) := by decide +kernel
theorem dX1_init_19 : decode cX1_init 19 = .ok (.iastore, 1) := by decide +kernel
theorem dX1_init_20 : decode cX1_init 20 = .ok (.aload_n 0, 1) := by decide +kernel
theorem dX1_init_21 : decode cX1_init 21 = .ok (.getfield 11, 3) := by decide +kernel
theorem dX1_init_24 : decode cX1_init 24 = .ok (.iconst 5, 1) := by decide +kernel
theorem dX1_init_25 : decode cX1_init 25 = .ok (.iconst 4, 1) := by decide +kernel
theorem dX1_init_26 : decode cX1_init 26 = .ok (.iastore, 1) := by decide +kernel
theorem dX1_init_27 : decode cX1_init 27 = .ok (.aload_n 0, 1) := by decide +kernel
theorem dX1_init_28 : decode cX1_init 28 = .ok (.getfield 11, 3) := by decide +kernel
theorem dX1_init_31 : decode cX1_init 31 = .ok (.bipush 6, 2) := by decide +kernel
theorem dX1_init_33 : decode cX1_init 33 = .ok (.iconst 4, 1) := by decide +kernel
theorem dX1_init_34 : decode cX1_init 34 = .ok (.iastore, 1) := by decide +kernel
theorem dX1_init_35 : decode cX1_init 35 = .ok (.return_, 1) := by decide +kernel
theorem dX1_copyFrom_0 : decode cX1_copyFrom 0 = .ok (.aload_n 1, 1) := by decide +kernel
theorem dX1_copyFrom_1 : decode cX1_copyFrom 1 = .ok (.getfield 11, 3) := by decide +kernel
theorem dX1_copyFrom_4 : decode cX1_copyFrom 4 = .ok (.iconst 0, 1) := by decide +kernel
theorem dX1_copyFrom_5 : decode cX1_copyFrom 5 = .ok (.aload_n 0, 1) := by decide +kernel
theorem dX1_copyFrom_6 : decode cX1_copyFrom 6 = .ok (.getfield 11, 3) := by decide +kernel
theorem dX1_copyFrom_9 : decode cX1_copyFrom 9 = .ok (.iconst 0, 1) := by decide +kernel
theorem dX1_copyFrom_10 : decode cX1_copyFrom 10 = .ok (.bipush 79, 2) := by decide +kernel
theorem dX1_copyFrom_12 : decode cX1_copyFrom 12 = .ok (.invokestatic 15, 3) := by decide +kernel
theorem dX1_copyFrom_15 : decode cX1_copyFrom 15 = .ok (.return_, 1) := by decide +kernel
theorem dX1_copyTo_0 : decode cX1_copyTo 0 = .ok (.iload_n 2, 1) := by decide +kernel
theorem dX1_copyTo_1 : decode cX1_copyTo 1 = .ok (.ifCond .lt 24, 3) := by decide +kernel
theorem dX1_copyTo_4 : decode cX1_copyTo 4 = .ok (.iload_n 2, 1) := by decide +kernel
theorem dX1_copyTo_5 : decode cX1_copyTo 5 = .ok (.aload_n 1, 1) := by decide +kernel
theorem dX1_copyTo_6 : decode cX1_copyTo 6 = .ok (.arraylength, 1) := by decide +kernel
theorem dX1_copyTo_7 : decode cX1_copyTo 7 = .ok (.bipush 79, 2) := by decide +kernel
theorem dX1_copyTo_9 : decode cX1_copyTo 9 = .ok (.isub, 1) := by decide +kernel
theorem dX1_copyTo_10 : decode cX1_copyTo 10 = .ok (.if_icmp .gt 15, 3) := by decide +kernel
theorem dX1_copyTo_13 : decode cX1_copyTo 13 = .ok (.aload_n 0, 1) := by decide +kernel
theorem dX1_copyTo_14 : decode cX1_copyTo 14 = .ok (.getfield 11, 3) := by decide +kernel
theorem dX1_copyTo_17 : decode cX1_copyTo 17 = .ok (.iconst 0, 1) := by decide +kernel
theorem dX1_copyTo_18 : decode cX1_copyTo 18 = .ok (.aload_n 1, 1) := by decide +kernel
theorem dX1_copyTo_19 : decode cX1_copyTo 19 = .ok (.iload_n 2, 1) := by decide +kernel
theorem dX1_copyTo_20 : decode cX1_copyTo 20 = .ok (.bipush 79, 2) := by decide +kernel
theorem dX1_copyTo_22 : decode cX1_copyTo 22 = .ok (.invokestatic 15, 3) := by decide +kernel
theorem dX1_copyTo_25 : decode cX1_copyTo 25 = .ok (.return_, 1) := by decide +kernel
theorem dX1_copyBack_0 : decode cX1_copyBack 0 = .ok (.iload_n 2, 1) := by decide +kernel
theorem dX1_copyBack_1 : decode cX1_copyBack 1 = .ok (.ifCond .lt 24, 3) := by decide +kernel
theorem dX1_copyBack_4 : decode cX1_copyBack 4 = .ok (.iload_n 2, 1) := by decide +kernel
theorem dX1_copyBack_5 : decode cX1_copyBack 5 = .ok (.aload_n 1, 1) := by decide +kernel
theorem dX1_copyBack_6 : decode cX1_copyBack 6 = .ok (.arraylength, 1) := by decide +kernel
theorem dX1_copyBack_7 : decode cX1_copyBack 7 = .ok (.bipush 79, 2) := by decide +kernel
theorem dX1_copyBack_9 : decode cX1_copyBack 9 = .ok (.isub, 1) := by decide +kernel
theorem dX1_copyBack_10 : decode cX1_copyBack 10 = .ok (.if_icmp .gt 15, 3) := by decide +kernel
theorem dX1_copyBack_13 : decode cX1_copyBack 13 = .ok (.aload_n 1, 1) := by decide +kernel
theorem dX1_copyBack_14 : decode cX1_copyBack 14 = .ok (.iload_n 2, 1) := by decide +kernel
theorem dX1_copyBack_15 : decode cX1_copyBack 15 = .ok (.aload_n 0, 1) := by decide +kernel
theorem dX1_copyBack_16 : decode cX1_copyBack 16 = .ok (.getfield 11, 3) := by decide +kernel
theorem dX1_copyBack_19 : decode cX1_copyBack 19 = .ok (.iconst 0, 1) := by decide +kernel
theorem dX1_copyBack_20 : decode cX1_copyBack 20 = .ok (.bipush 79, 2) := by decide +kernel
theorem dX1_copyBack_22 : decode cX1_copyBack 22 = .ok (.invokestatic 15, 3) := by decide +kernel
theorem dX1_copyBack_25 : decode cX1_copyBack 25 = .ok (.return_, 1) := by decide +kernel
theorem dX1_number_0 : decode cX1_number 0 = .ok (.iload_n 1, 1) := by decide +kernel
theorem dX1_number_1 : decode cX1_number 1 = .ok (.ifCond .lt 18, 3) := by decide +kernel
theorem dX1_number_4 : decode cX1_number 4 = .ok (.iload_n 1, 1) := by decide +kernel
theorem dX1_number_5 : decode cX1_number 5 = .ok (.bipush 7, 2) := by decide +kernel
theorem dX1_number_7 : decode cX1_number 7 = .ok (.if_icmp .ge 12, 3) := by decide +kernel
theorem dX1_number_10 : decode cX1_number 10 = .ok (.aload_n 0, 1) := by decide +kernel
theorem dX1_number_11 : decode cX1_number 11 = .ok (.getfield 11, 3) := by decide +kernel
theorem dX1_number_14 : decode cX1_number 14 = .ok (.iload_n 1, 1) := by decide +kernel
theorem dX1_number_15 : decode cX1_number 15 = .ok (.iaload, 1) := by decide +kernel
theorem dX1_number_16 : decode cX1_number 16 = .ok (.goto 4, 3) := by decide +kernel
theorem dX1_number_19 : decode cX1_number 19 = .ok (.iconst 0, 1) := by decide +kernel
theorem dX1_number_20 : decode cX1_number 20 = .ok (.ireturn, 1) := by decide +kernel
theorem dX1_putNumber_0 : decode cX1_putNumber 0 = .ok (.iload_n 1, 1) := by decide +kernel
theorem dX1_putNumber_1 : decode cX1_putNumber 1 = .ok (.ifCond .lt 16, 3) := by decide +kernel
theorem dX1_putNumber_4 : decode cX1_putNumber 4 = .ok (.iload_n 1, 1) := by decide +kernel
theorem dX1_putNumber_5 : decode cX1_putNumber 5 = .ok (.bipush 7, 2) := by decide +kernel
theorem dX1_putNumber_7 : decode cX1_putNumber 7 = .ok (.if_icmp .ge 10, 3) := by decide +kernel
theorem dX1_putNumber_10 : decode cX1_putNumber 10 = .ok (.aload_n 0, 1) := by decide +kernel
theorem dX1_putNumber_11 : decode cX1_putNumber 11 = .ok (.getfield 11, 3) := by decide +kernel
theorem dX1_putNumber_14 : decode cX1_putNumber 14 = .ok (.iload_n 1, 1) := by decide +kernel
theorem dX1_putNumber_15 : decode cX1_putNumber 15 = .ok (.iload_n 2, 1) := by decide +kernel
theorem dX1_putNumber_16 : decode cX1_putNumber 16 = .ok (.iastore, 1) := by decide +kernel
theorem dX1_putNumber_17 : decode cX1_putNumber 17 = .ok (.return_, 1) := by decide +kernel
theorem dX1_ofShade_0 : decode cX1_ofShade 0 = .ok (.iload_n 1, 1) := by decide +kernel
theorem dX1_ofShade_1 : decode cX1_ofShade 1 = .ok (.ifCond .lt 19, 3) := by decide +kernel
theorem dX1_ofShade_4 : decode cX1_ofShade 4 = .ok (.iload_n 1, 1) := by decide +kernel
theorem dX1_ofShade_5 : decode cX1_ofShade 5 = .ok (.bipush 8, 2) := by decide +kernel
theorem dX1_ofShade_7 : decode cX1_ofShade 7 = .ok (.if_icmp .ge 13, 3) := by decide +kernel
theorem dX1_ofShade_10 : decode cX1_ofShade 10 = .ok (.iload_n 2, 1) := by decide +kernel
theorem dX1_ofShade_11 : decode cX1_ofShade 11 = .ok (.ifCond .lt 9, 3) := by decide +kernel
theorem dX1_ofShade_14 : decode cX1_ofShade 14 = .ok (.iload_n 2, 1) := by decide +kernel
theorem dX1_ofShade_15 : decode cX1_ofShade 15 = .ok (.bipush 7, 2) := by decide +kernel
theorem dX1_ofShade_17 : decode cX1_ofShade 17 = .ok (.if_icmp .lt 5, 3) := by decide +kernel
theorem dX1_ofShade_20 : decode cX1_ofShade 20 = .ok (.iconst 0, 1) := by decide +kernel
theorem dX1_ofShade_21 : decode cX1_ofShade 21 = .ok (.ireturn, 1) := by decide +kernel
theorem dX1_ofShade_22 : decode cX1_ofShade 22 = .ok (.aload_n 0, 1) := by decide +kernel
theorem dX1_ofShade_23 : decode cX1_ofShade 23 = .ok (.getfield 11, 3) := by decide +kernel
theorem dX1_ofShade_26 : decode cX1_ofShade 26 = .ok (.bipush 7, 2) := by decide +kernel
theorem dX1_ofShade_28 : decode cX1_ofShade 28 = .ok (.iload_n 1, 1) := by decide +kernel
theorem dX1_ofShade_29 : decode cX1_ofShade 29 = .ok (.bipush 7, 2) := by decide +kernel
theorem dX1_ofShade_31 : decode cX1_ofShade 31 = .ok (.imul, 1) := by decide +kernel
theorem dX1_ofShade_32 : decode cX1_ofShade 32 = .ok (.iadd, 1) := by decide +kernel
theorem dX1_ofShade_33 : decode cX1_ofShade 33 = .ok (.iload_n 2, 1) := by decide +kernel
theorem dX1_ofShade_34 : decode cX1_ofShade 34 = .ok (.iadd, 1) := by decide +kernel
theorem dX1_ofShade_35 : decode cX1_ofShade 35 = .ok (.iaload, 1) := by decide +kernel
theorem dX1_ofShade_36 : decode cX1_ofShade 36 = .ok (.ireturn, 1) := by decide +kernel
theorem dX1_putShade_0 : decode cX1_putShade 0 = .ok (.iload_n 1, 1) := by decide +kernel
theorem dX1_putShade_1 : decode cX1_putShade 1 = .ok (.ifCond .lt 34, 3) := by decide +kernel
theorem dX1_putShade_4 : decode cX1_putShade 4 = .ok (.iload_n 1, 1) := by decide +kernel
theorem dX1_putShade_5 : decode cX1_putShade 5 = .ok (.bipush 8, 2) := by decide +kernel
theorem dX1_putShade_7 : decode cX1_putShade 7 = .ok (.if_icmp .ge 28, 3) := by decide +kernel
theorem dX1_putShade_10 : decode cX1_putShade 10 = .ok (.iload_n 2, 1) := by decide +kernel
theorem dX1_putShade_11 : decode cX1_putShade 11 = .ok (.ifCond .lt 24, 3) := by decide +kernel
theorem dX1_putShade_14 : decode cX1_putShade 14 = .ok (.iload_n 2, 1) := by decide +kernel
theorem dX1_putShade_15 : decode cX1_putShade 15 = .ok (.bipush 7, 2) := by decide +kernel
theorem dX1_putShade_17 : decode cX1_putShade 17 = .ok (.if_icmp .ge 18, 3) := by decide +kernel
theorem dX1_putShade_20 : decode cX1_putShade 20 = .ok (.aload_n 0, 1) := by decide +kernel
theorem dX1_putShade_21 : decode cX1_putShade 21 = .ok (.getfield 11, 3) := by decide +kernel
theorem dX1_putShade_24 : decode cX1_putShade 24 = .ok (.bipush 7, 2) := by decide +kernel
theorem dX1_putShade_26 : decode cX1_putShade 26 = .ok (.iload_n 1, 1) := by decide +kernel
theorem dX1_putShade_27 : decode cX1_putShade 27 = .ok (.bipush 7, 2) := by decide +kernel
theorem dX1_putShade_29 : decode cX1_putShade 29 = .ok (.imul, 1) := by decide +kernel
theorem dX1_putShade_30 : decode cX1_putShade 30 = .ok (.iadd, 1) := by decide +kernel
theorem dX1_putShade_31 : decode cX1_putShade 31 = .ok (.iload_n 2, 1) := by decide +kernel
theorem dX1_putShade_32 : decode cX1_putShade 32 = .ok (.iadd, 1) := by decide +kernel
theorem dX1_putShade_33 : decode cX1_putShade 33 = .ok (.iload_n 3, 1) := by decide +kernel
theorem dX1_putShade_34 : decode cX1_putShade 34 = .ok (.iastore, 1) := by decide +kernel
theorem dX1_putShade_35 : decode cX1_putShade 35 = .ok (.return_, 1) := by decide +kernel
theorem dX1_ofString_0 : decode cX1_ofString 0 = .ok (.iload_n 1, 1) := by decide +kernel
theorem dX1_ofString_1 : decode cX1_ofString 1 = .ok (.ifCond .lt 17, 3) := by decide +kernel
theorem dX1_ofString_4 : decode cX1_ofString 4 = .ok (.iload_n 1, 1) := by decide +kernel
theorem dX1_ofString_5 : decode cX1_ofString 5 = .ok (.iconst 4, 1) := by decide +kernel
theorem dX1_ofString_6 : decode cX1_ofString 6 = .ok (.if_icmp .ge 12, 3) := by decide +kernel
theorem dX1_ofString_9 : decode cX1_ofString 9 = .ok (.iload_n 2, 1) := by decide +kernel
theorem dX1_ofString_10 : decode cX1_ofString 10 = .ok (.ifCond .lt 8, 3) := by decide +kernel
theorem dX1_ofString_13 : decode cX1_ofString 13 = .ok (.iload_n 2, 1) := by decide +kernel
theorem dX1_ofString_14 : decode cX1_ofString 14 = .ok (.iconst 4, 1) := by decide +kernel
theorem dX1_ofString_15 : decode cX1_ofString 15 = .ok (.if_icmp .lt 5, 3) := by decide +kernel
theorem dX1_ofString_18 : decode cX1_ofString 18 = .ok (.iconst 0, 1) := by decide +kernel
theorem dX1_ofString_19 : decode cX1_ofString 19 = .ok (.ireturn, 1) := by decide +kernel
theorem dX1_ofString_20 : decode cX1_ofString 20 = .ok (.aload_n 0, 1) := by decide +kernel
theorem dX1_ofString_21 : decode cX1_ofString 21 = .ok (.getfield 11, 3) := by decide +kernel
theorem dX1_ofString_24 : decode cX1_ofString 24 = .ok (.bipush 63, 2) := by decide +kernel
theorem dX1_ofString_26 : decode cX1_ofString 26 = .ok (.iload_n 1, 1) := by decide +kernel
theorem dX1_ofString_27 : decode cX1_ofString 27 = .ok (.iconst 4, 1) := by decide +kernel
theorem dX1_ofString_28 : decode cX1_ofString 28 = .ok (.imul, 1) := by decide +kernel
theorem dX1_ofString_29 : decode cX1_ofString 29 = .ok (.iadd, 1) := by decide +kernel
theorem dX1_ofString_30 : decode cX1_ofString 30 = .ok (.iload_n 2, 1) := by decide +kernel
theorem dX1_ofString_31 : decode cX1_ofString 31 = .ok (.iadd, 1) := by decide +kernel
theorem dX1_ofString_32 : decode cX1_ofString 32 = .ok (.iaload, 1) := by decide +kernel
theorem dX1_ofString_33 : decode cX1_ofString 33 = .ok (.ireturn, 1) := by decide +kernel
theorem dX1_putString_0 : decode cX1_putString 0 = .ok (.iload_n 1, 1) := by decide +kernel
theorem dX1_putString_1 : decode cX1_putString 1 = .ok (.ifCond .lt 31, 3) := by decide +kernel
theorem dX1_putString_4 : decode cX1_putString 4 = .ok (.iload_n 1, 1) := by decide +kernel
theorem dX1_putString_5 : decode cX1_putString 5 = .ok (.iconst 4, 1) := by decide +kernel
theorem dX1_putString_6 : decode cX1_putString 6 = .ok (.if_icmp .ge 26, 3) := by decide +kernel
theorem dX1_putString_9 : decode cX1_putString 9 = .ok (.iload_n 2, 1) := by decide +kernel
theorem dX1_putString_10 : decode cX1_putString 10 = .ok (.ifCond .lt 22, 3) := by decide +kernel
theorem dX1_putString_13 : decode cX1_putString 13 = .ok (.iload_n 2, 1) := by decide +kernel
theorem dX1_putString_14 : decode cX1_putString 14 = .ok (.iconst 4, 1) := by decide +kernel
theorem dX1_putString_15 : decode cX1_putString 15 = .ok (.if_icmp .ge 17, 3) := by decide +kernel
theorem dX1_putString_18 : decode cX1_putString 18 = .ok (.aload_n 0, 1) := by decide +kernel
theorem dX1_putString_19 : decode cX1_putString 19 = .ok (.getfield 11, 3) := by decide +kernel
theorem dX1_putString_22 : decode cX1_putString 22 = .ok (.bipush 63, 2) := by decide +kernel
theorem dX1_putString_24 : decode cX1_putString 24 = .ok (.iload_n 1, 1) := by decide +kernel
theorem dX1_putString_25 : decode cX1_putString 25 = .ok (.iconst 4, 1) := by decide +kernel
theorem dX1_putString_26 : decode cX1_putString 26 = .ok (.imul, 1) := by decide +kernel
theorem dX1_putString_27 : decode cX1_putString 27 = .ok (.iadd, 1) := by decide +kernel
theorem dX1_putString_28 : decode cX1_putString 28 = .ok (.iload_n 2, 1) := by decide +kernel
theorem dX1_putString_29 : decode cX1_putString 29 = .ok (.iadd, 1) := by decide +kernel
theorem dX1_putString_30 : decode cX1_putString 30 = .ok (.iload_n 3, 1) := by decide +kernel
theorem dX1_putString_31 : decode cX1_putString 31 = .ok (.iastore, 1) := by decide +kernel
theorem dX1_putString_32 : decode cX1_putString 32 = .ok (.return_, 1) := by decide +kernel
theorem dX1_shades_0 : decode cX1_shades 0 = .ok (.aload_n 0, 1) := by decide +kernel
theorem dX1_shades_1 : decode cX1_shades 1 = .ok (.getfield 11, 3) := by decide +kernel
theorem dX1_shades_4 : decode cX1_shades 4 = .ok (.iconst 0, 1) := by decide +kernel
theorem dX1_shades_5 : decode cX1_shades 5 = .ok (.iaload, 1) := by decide +kernel
theorem dX1_shades_6 : decode cX1_shades 6 = .ok (.ireturn, 1) := by decide +kernel
theorem dX1_strings_0 : decode cX1_strings 0 = .ok (.aload_n 0, 1) := by decide +kernel
theorem dX1_strings_1 : decode cX1_strings 1 = .ok (.getfield 11, 3) := by decide +kernel
theorem dX1_strings_4 : decode cX1_strings 4 = .ok (.iconst 1, 1) := by decide +kernel
theorem dX1_strings_5 : decode cX1_strings 5 = .ok (.iaload, 1) := by decide +kernel
theorem dX1_strings_6 : decode cX1_strings 6 = .ok (.ireturn, 1) := by decide +kernel
theorem dX1_hasShade_0 : decode cX1_hasShade 0 = .ok (.iload_n 1, 1) := by decide +kernel
theorem dX1_hasShade_1 : decode cX1_hasShade 1 = .ok (.ifCond .lt 15, 3) := by decide +kernel
theorem dX1_hasShade_4 : decode cX1_hasShade 4 = .ok (.iload_n 1, 1) := by decide +kernel
theorem dX1_hasShade_5 : decode cX1_hasShade 5 = .ok (.aload_n 0, 1) := by decide +kernel
theorem dX1_hasShade_6 : decode cX1_hasShade 6 = .ok (.invokevirtual 21, 3) := by decide +kernel
theorem dX1_hasShade_9 : decode cX1_hasShade 9 = .ok (.if_icmp .ge 7, 3) := by decide +kernel
theorem dX1_hasShade_12 : decode cX1_hasShade 12 = .ok (.iconst 1, 1) := by decide +kernel
theorem dX1_hasShade_13 : decode cX1_hasShade 13 = .ok (.goto 4, 3) := by decide +kernel
theorem dX1_hasShade_16 : decode cX1_hasShade 16 = .ok (.iconst 0, 1) := by decide +kernel
theorem dX1_hasShade_17 : decode cX1_hasShade 17 = .ok (.ireturn, 1) := by decide +kernel
theorem dX1_hasString_0 : decode cX1_hasString 0 = .ok (.iload_n 1, 1) := by decide +kernel
theorem dX1_hasString_1 : decode cX1_hasString 1 = .ok (.ifCond .lt 15, 3) := by decide +kernel
theorem dX1_hasString_4 : decode cX1_hasString 4 = .ok (.iload_n 1, 1) := by decide +kernel
theorem dX1_hasString_5 : decode cX1_hasString 5 = .ok (.aload_n 0, 1) := by decide +kernel
theorem dX1_hasString_6 : decode cX1_hasString 6 = .ok (.invokevirtual 25, 3) := by decide +kernel
theorem dX1_hasString_9 : decode cX1_hasString 9 = .ok (.if_icmp .ge 7, 3) := by decide +kernel
theorem dX1_hasString_12 : decode cX1_hasString 12 = .ok (.iconst 1, 1) := by decide +kernel
theorem dX1_hasString_13 : decode cX1_hasString 13 = .ok (.goto 4, 3) := by decide +kernel
theorem dX1_hasString_16 : decode cX1_hasString 16 = .ok (.iconst 0, 1) := by decide +kernel
theorem dX1_hasString_17 : decode cX1_hasString 17 = .ok (.ireturn, 1) := by decide +kernel
theorem dX1_isTold_0 : decode cX1_isTold 0 = .ok (.aload_n 0, 1) := by decide +kernel
theorem dX1_isTold_1 : decode cX1_isTold 1 = .ok (.iload_n 1, 1) := by decide +kernel
theorem dX1_isTold_2 : decode cX1_isTold 2 = .ok (.invokevirtual 28, 3) := by decide +kernel
theorem dX1_isTold_5 : decode cX1_isTold 5 = .ok (.ifCond .eq 18, 3) := by decide +kernel
theorem dX1_isTold_8 : decode cX1_isTold 8 = .ok (.aload_n 0, 1) := by decide +kernel
theorem dX1_isTold_9 : decode cX1_isTold 9 = .ok (.iload_n 1, 1) := by decide +kernel
theorem dX1_isTold_10 : decode cX1_isTold 10 = .ok (.bipush 6, 2) := by decide +kernel
theorem dX1_isTold_12 : decode cX1_isTold 12 = .ok (.invokevirtual 32, 3) := by decide +kernel
theorem dX1_isTold_15 : decode cX1_isTold 15 = .ok (.iconst (-1), 1) := by decide +kernel
theorem dX1_isTold_16 : decode cX1_isTold 16 = .ok (.if_icmp .eq 7, 3) := by decide +kernel
theorem dX1_isTold_19 : decode cX1_isTold 19 = .ok (.iconst 1, 1) := by decide +kernel
theorem dX1_isTold_20 : decode cX1_isTold 20 = .ok (.goto 4, 3) := by decide +kernel
theorem dX1_isTold_23 : decode cX1_isTold 23 = .ok (.iconst 0, 1) := by decide +kernel
theorem dX1_isTold_24 : decode cX1_isTold 24 = .ok (.ireturn, 1) := by decide +kernel
theorem dX1_isStanding_0 : decode cX1_isStanding 0 = .ok (.aload_n 0, 1) := by decide +kernel
theorem dX1_isStanding_1 : decode cX1_isStanding 1 = .ok (.iload_n 1, 1) := by decide +kernel
theorem dX1_isStanding_2 : decode cX1_isStanding 2 = .ok (.iconst 0, 1) := by decide +kernel
theorem dX1_isStanding_3 : decode cX1_isStanding 3 = .ok (.invokevirtual 32, 3) := by decide +kernel
theorem dX1_isStanding_6 : decode cX1_isStanding 6 = .ok (.aload_n 0, 1) := by decide +kernel
theorem dX1_isStanding_7 : decode cX1_isStanding 7 = .ok (.iload_n 1, 1) := by decide +kernel
theorem dX1_isStanding_8 : decode cX1_isStanding 8 = .ok (.bipush 6, 2) := by decide +kernel
theorem dX1_isStanding_10 : decode cX1_isStanding 10 = .ok (.invokevirtual 32, 3) := by decide +kernel
theorem dX1_isStanding_13 : decode cX1_isStanding 13 = .ok (.if_icmp .ne 7, 3) := by decide +kernel
theorem dX1_isStanding_16 : decode cX1_isStanding 16 = .ok (.iconst 1, 1) := by decide +kernel
theorem dX1_isStanding_17 : decode cX1_isStanding 17 = .ok (.goto 4, 3) := by decide +kernel
theorem dX1_isStanding_20 : decode cX1_isStanding 20 = .ok (.iconst 0, 1) := by decide +kernel
theorem dX1_isStanding_21 : decode cX1_isStanding 21 = .ok (.ireturn, 1) := by decide +kernel
theorem dX1_isTangled_0 : decode cX1_isTangled 0 = .ok (.aload_n 0, 1) := by decide +kernel
theorem dX1_isTangled_1 : decode cX1_isTangled 1 = .ok (.iload_n 1, 1) := by decide +kernel
theorem dX1_isTangled_2 : decode cX1_isTangled 2 = .ok (.iconst 1, 1) := by decide +kernel
theorem dX1_isTangled_3 : decode cX1_isTangled 3 = .ok (.isub, 1) := by decide +kernel
theorem dX1_isTangled_4 : decode cX1_isTangled 4 = .ok (.iconst 3, 1) := by decide +kernel
theorem dX1_isTangled_5 : decode cX1_isTangled 5 = .ok (.invokevirtual 32, 3) := by decide +kernel
theorem dX1_isTangled_8 : decode cX1_isTangled 8 = .ok (.ifCond .gt 12, 3) := by decide +kernel
theorem dX1_isTangled_11 : decode cX1_isTangled 11 = .ok (.aload_n 0, 1) := by decide +kernel
theorem dX1_isTangled_12 : decode cX1_isTangled 12 = .ok (.iload_n 1, 1) := by decide +kernel
theorem dX1_isTangled_13 : decode cX1_isTangled 13 = .ok (.iconst 3, 1) := by decide +kernel
theorem dX1_isTangled_14 : decode cX1_isTangled 14 = .ok (.invokevirtual 32, 3) := by decide +kernel
theorem dX1_isTangled_17 : decode cX1_isTangled 17 = .ok (.ifCond .le 7, 3) := by decide +kernel
theorem dX1_isTangled_20 : decode cX1_isTangled 20 = .ok (.iconst 1, 1) := by decide +kernel
theorem dX1_isTangled_21 : decode cX1_isTangled 21 = .ok (.goto 4, 3) := by decide +kernel
theorem dX1_isTangled_24 : decode cX1_isTangled 24 = .ok (.iconst 0, 1) := by decide +kernel
theorem dX1_isTangled_25 : decode cX1_isTangled 25 = .ok (.ireturn, 1) := by decide +kernel
theorem dX1_isLowestOfGroup_0 : decode cX1_isLowestOfGroup 0 = .ok (.aload_n 0, 1) := by decide +kernel
theorem dX1_isLowestOfGroup_1 : decode cX1_isLowestOfGroup 1 = .ok (.iload_n 1, 1) := by decide +kernel
theorem dX1_isLowestOfGroup_2 : decode cX1_isLowestOfGroup 2 = .ok (.iconst 1, 1) := by decide +kernel
theorem dX1_isLowestOfGroup_3 : decode cX1_isLowestOfGroup 3 = .ok (.isub, 1) := by decide +kernel
theorem dX1_isLowestOfGroup_4 : decode cX1_isLowestOfGroup 4 = .ok (.iconst 3, 1) := by decide +kernel
theorem dX1_isLowestOfGroup_5 : decode cX1_isLowestOfGroup 5 = .ok (.invokevirtual 32, 3) := by decide +kernel
theorem dX1_isLowestOfGroup_8 : decode cX1_isLowestOfGroup 8 = .ok (.ifCond .ne 7, 3) := by decide +kernel
theorem dX1_isLowestOfGroup_11 : decode cX1_isLowestOfGroup 11 = .ok (.iconst 1, 1) := by decide +kernel
theorem dX1_isLowestOfGroup_12 : decode cX1_isLowestOfGroup 12 = .ok (.goto 4, 3) := by decide +kernel
theorem dX1_isLowestOfGroup_15 : decode cX1_isLowestOfGroup 15 = .ok (.iconst 0, 1) := by decide +kernel
theorem dX1_isLowestOfGroup_16 : decode cX1_isLowestOfGroup 16 = .ok (.ireturn, 1) := by decide +kernel
theorem dX1_groupOf_0 : decode cX1_groupOf 0 = .ok (.iload_n 1, 1) := by decide +kernel
theorem dX1_groupOf_1 : decode cX1_groupOf 1 = .ok (.invokestatic 36, 3) := by decide +kernel
theorem dX1_groupOf_4 : decode cX1_groupOf 4 = .ok (.istore_n 2, 1) := by decide +kernel
theorem dX1_groupOf_5 : decode cX1_groupOf 5 = .ok (.iload_n 1, 1) := by decide +kernel
theorem dX1_groupOf_6 : decode cX1_groupOf 6 = .ok (.iconst 1, 1) := by decide +kernel
theorem dX1_groupOf_7 : decode cX1_groupOf 7 = .ok (.isub, 1) := by decide +kernel
theorem dX1_groupOf_8 : decode cX1_groupOf 8 = .ok (.istore_n 3, 1) := by decide +kernel
theorem dX1_groupOf_9 : decode cX1_groupOf 9 = .ok (.iload_n 3, 1) := by decide +kernel
theorem dX1_groupOf_10 : decode cX1_groupOf 10 = .ok (.ifCond .lt 25, 3) := by decide +kernel
theorem dX1_groupOf_13 : decode cX1_groupOf 13 = .ok (.aload_n 0, 1) := by decide +kernel
theorem dX1_groupOf_14 : decode cX1_groupOf 14 = .ok (.iload_n 3, 1) := by decide +kernel
theorem dX1_groupOf_15 : decode cX1_groupOf 15 = .ok (.iconst 3, 1) := by decide +kernel
theorem dX1_groupOf_16 : decode cX1_groupOf 16 = .ok (.invokevirtual 32, 3) := by decide +kernel
theorem dX1_groupOf_19 : decode cX1_groupOf 19 = .ok (.ifCond .le 16, 3) := by decide +kernel
theorem dX1_groupOf_22 : decode cX1_groupOf 22 = .ok (.iload_n 2, 1) := by decide +kernel
theorem dX1_groupOf_23 : decode cX1_groupOf 23 = .ok (.iload_n 3, 1) := by decide +kernel
theorem dX1_groupOf_24 : decode cX1_groupOf 24 = .ok (.invokestatic 36, 3) := by decide +kernel
theorem dX1_groupOf_27 : decode cX1_groupOf 27 = .ok (.ior, 1) := by decide +kernel
theorem dX1_groupOf_28 : decode cX1_groupOf 28 = .ok (.istore_n 2, 1) := by decide +kernel
theorem dX1_groupOf_29 : decode cX1_groupOf 29 = .ok (.iinc 3 (-1), 3) := by decide +kernel
theorem dX1_groupOf_32 : decode cX1_groupOf 32 = .ok (.goto (-23), 3) := by decide +kernel
theorem dX1_groupOf_35 : decode cX1_groupOf 35 = .ok (.iload_n 1, 1) := by decide +kernel
theorem dX1_groupOf_36 : decode cX1_groupOf 36 = .ok (.iconst 1, 1) := by decide +kernel
theorem dX1_groupOf_37 : decode cX1_groupOf 37 = .ok (.iadd, 1) := by decide +kernel
theorem dX1_groupOf_38 : decode cX1_groupOf 38 = .ok (.istore_n 3, 1) := by decide +kernel
theorem dX1_groupOf_39 : decode cX1_groupOf 39 = .ok (.iload_n 3, 1) := by decide +kernel
theorem dX1_groupOf_40 : decode cX1_groupOf 40 = .ok (.aload_n 0, 1) := by decide +kernel
theorem dX1_groupOf_41 : decode cX1_groupOf 41 = .ok (.invokevirtual 21, 3) := by decide +kernel
theorem dX1_groupOf_44 : decode cX1_groupOf 44 = .ok (.if_icmp .ge 27, 3) := by decide +kernel
theorem dX1_groupOf_47 : decode cX1_groupOf 47 = .ok (.aload_n 0, 1) := by decide +kernel
theorem dX1_groupOf_48 : decode cX1_groupOf 48 = .ok (.iload_n 3, 1) := by decide +kernel
theorem dX1_groupOf_49 : decode cX1_groupOf 49 = .ok (.iconst 1, 1) := by decide +kernel
theorem dX1_groupOf_50 : decode cX1_groupOf 50 = .ok (.isub, 1) := by decide +kernel
theorem dX1_groupOf_51 : decode cX1_groupOf 51 = .ok (.iconst 3, 1) := by decide +kernel
theorem dX1_groupOf_52 : decode cX1_groupOf 52 = .ok (.invokevirtual 32, 3) := by decide +kernel
theorem dX1_groupOf_55 : decode cX1_groupOf 55 = .ok (.ifCond .le 16, 3) := by decide +kernel
theorem dX1_groupOf_58 : decode cX1_groupOf 58 = .ok (.iload_n 2, 1) := by decide +kernel
theorem dX1_groupOf_59 : decode cX1_groupOf 59 = .ok (.iload_n 3, 1) := by decide +kernel
theorem dX1_groupOf_60 : decode cX1_groupOf 60 = .ok (.invokestatic 36, 3) := by decide +kernel
theorem dX1_groupOf_63 : decode cX1_groupOf 63 = .ok (.ior, 1) := by decide +kernel
theorem dX1_groupOf_64 : decode cX1_groupOf 64 = .ok (.istore_n 2, 1) := by decide +kernel
theorem dX1_groupOf_65 : decode cX1_groupOf 65 = .ok (.iinc 3 1, 3) := by decide +kernel
theorem dX1_groupOf_68 : decode cX1_groupOf 68 = .ok (.goto (-29), 3) := by decide +kernel
theorem dX1_groupOf_71 : decode cX1_groupOf 71 = .ok (.iload_n 2, 1) := by decide +kernel
theorem dX1_groupOf_72 : decode cX1_groupOf 72 = .ok (.ireturn, 1) := by decide +kernel
theorem dX1_heightsUnlike_0 : decode cX1_heightsUnlike 0 = .ok (.iconst 0, 1) := by decide +kernel
theorem dX1_heightsUnlike_1 : decode cX1_heightsUnlike 1 = .ok (.istore_n 2, 1) := by decide +kernel
theorem dX1_heightsUnlike_2 : decode cX1_heightsUnlike 2 = .ok (.iconst 0, 1) := by decide +kernel
theorem dX1_heightsUnlike_3 : decode cX1_heightsUnlike 3 = .ok (.istore_n 3, 1) := by decide +kernel
theorem dX1_heightsUnlike_4 : decode cX1_heightsUnlike 4 = .ok (.iload_n 3, 1) := by decide +kernel
theorem dX1_heightsUnlike_5 : decode cX1_heightsUnlike 5 = .ok (.aload_n 0, 1) := by decide +kernel
theorem dX1_heightsUnlike_6 : decode cX1_heightsUnlike 6 = .ok (.invokevirtual 21, 3) := by decide +kernel
theorem dX1_heightsUnlike_9 : decode cX1_heightsUnlike 9 = .ok (.if_icmp .ge 31, 3) := by decide +kernel
theorem dX1_heightsUnlike_12 : decode cX1_heightsUnlike 12 = .ok (.aload_n 0, 1) := by decide +kernel
theorem dX1_heightsUnlike_13 : decode cX1_heightsUnlike 13 = .ok (.iload_n 3, 1) := by decide +kernel
theorem dX1_heightsUnlike_14 : decode cX1_heightsUnlike 14 = .ok (.iconst 0, 1) := by decide +kernel
theorem dX1_heightsUnlike_15 : decode cX1_heightsUnlike 15 = .ok (.invokevirtual 32, 3) := by decide +kernel
theorem dX1_heightsUnlike_18 : decode cX1_heightsUnlike 18 = .ok (.aload_n 1, 1) := by decide +kernel
theorem dX1_heightsUnlike_19 : decode cX1_heightsUnlike 19 = .ok (.iload_n 3, 1) := by decide +kernel
theorem dX1_heightsUnlike_20 : decode cX1_heightsUnlike 20 = .ok (.iconst 0, 1) := by decide +kernel
theorem dX1_heightsUnlike_21 : decode cX1_heightsUnlike 21 = .ok (.invokevirtual 32, 3) := by decide +kernel
theorem dX1_heightsUnlike_24 : decode cX1_heightsUnlike 24 = .ok (.if_icmp .eq 10, 3) := by decide +kernel
theorem dX1_heightsUnlike_27 : decode cX1_heightsUnlike 27 = .ok (.iload_n 2, 1) := by decide +kernel
theorem dX1_heightsUnlike_28 : decode cX1_heightsUnlike 28 = .ok (.iload_n 3, 1) := by decide +kernel
theorem dX1_heightsUnlike_29 : decode cX1_heightsUnlike 29 = .ok (.invokestatic 36, 3) := by decide +kernel
theorem dX1_heightsUnlike_32 : decode cX1_heightsUnlike 32 = .ok (.ior, 1) := by decide +kernel
theorem dX1_heightsUnlike_33 : decode cX1_heightsUnlike 33 = .ok (.istore_n 2, 1) := by decide +kernel
theorem dX1_heightsUnlike_34 : decode cX1_heightsUnlike 34 = .ok (.iinc 3 1, 3) := by decide +kernel
theorem dX1_heightsUnlike_37 : decode cX1_heightsUnlike 37 = .ok (.goto (-33), 3) := by decide +kernel
theorem dX1_heightsUnlike_40 : decode cX1_heightsUnlike 40 = .ok (.iload_n 2, 1) := by decide +kernel
theorem dX1_heightsUnlike_41 : decode cX1_heightsUnlike 41 = .ok (.ireturn, 1) := by decide +kernel
theorem dX1_knots_0 : decode cX1_knots 0 = .ok (.iconst 0, 1) := by decide +kernel
theorem dX1_knots_1 : decode cX1_knots 1 = .ok (.istore_n 1, 1) := by decide +kernel
theorem dX1_knots_2 : decode cX1_knots 2 = .ok (.iconst 0, 1) := by decide +kernel
theorem dX1_knots_3 : decode cX1_knots 3 = .ok (.istore_n 2, 1) := by decide +kernel
theorem dX1_knots_4 : decode cX1_knots 4 = .ok (.iload_n 2, 1) := by decide +kernel
theorem dX1_knots_5 : decode cX1_knots 5 = .ok (.aload_n 0, 1) := by decide +kernel
theorem dX1_knots_6 : decode cX1_knots 6 = .ok (.invokevirtual 21, 3) := by decide +kernel
theorem dX1_knots_9 : decode cX1_knots 9 = .ok (.if_icmp .ge 21, 3) := by decide +kernel
theorem dX1_knots_12 : decode cX1_knots 12 = .ok (.aload_n 0, 1) := by decide +kernel
theorem dX1_knots_13 : decode cX1_knots 13 = .ok (.iload_n 2, 1) := by decide +kernel
theorem dX1_knots_14 : decode cX1_knots 14 = .ok (.iconst 3, 1) := by decide +kernel
theorem dX1_knots_15 : decode cX1_knots 15 = .ok (.invokevirtual 32, 3) := by decide +kernel
theorem dX1_knots_18 : decode cX1_knots 18 = .ok (.ifCond .le 6, 3) := by decide +kernel
theorem dX1_knots_21 : decode cX1_knots 21 = .ok (.iinc 1 1, 3) := by decide +kernel
theorem dX1_knots_24 : decode cX1_knots 24 = .ok (.iinc 2 1, 3) := by decide +kernel
theorem dX1_knots_27 : decode cX1_knots 27 = .ok (.goto (-23), 3) := by decide +kernel
theorem dX1_knots_30 : decode cX1_knots 30 = .ok (.iload_n 1, 1) := by decide +kernel
theorem dX1_knots_31 : decode cX1_knots 31 = .ok (.ireturn, 1) := by decide +kernel
theorem dX1_depths_0 : decode cX1_depths 0 = .ok (.iconst 0, 1) := by decide +kernel
theorem dX1_depths_1 : decode cX1_depths 1 = .ok (.istore_n 1, 1) := by decide +kernel
theorem dX1_depths_2 : decode cX1_depths 2 = .ok (.iconst 0, 1) := by decide +kernel
theorem dX1_depths_3 : decode cX1_depths 3 = .ok (.istore_n 2, 1) := by decide +kernel
theorem dX1_depths_4 : decode cX1_depths 4 = .ok (.iload_n 2, 1) := by decide +kernel
theorem dX1_depths_5 : decode cX1_depths 5 = .ok (.aload_n 0, 1) := by decide +kernel
theorem dX1_depths_6 : decode cX1_depths 6 = .ok (.invokevirtual 21, 3) := by decide +kernel
theorem dX1_depths_9 : decode cX1_depths 9 = .ok (.if_icmp .ge 18, 3) := by decide +kernel
theorem dX1_depths_12 : decode cX1_depths 12 = .ok (.iload_n 1, 1) := by decide +kernel
theorem dX1_depths_13 : decode cX1_depths 13 = .ok (.aload_n 0, 1) := by decide +kernel
theorem dX1_depths_14 : decode cX1_depths 14 = .ok (.iload_n 2, 1) := by decide +kernel
theorem dX1_depths_15 : decode cX1_depths 15 = .ok (.iconst 3, 1) := by decide +kernel
theorem dX1_depths_16 : decode cX1_depths 16 = .ok (.invokevirtual 32, 3) := by decide +kernel
theorem dX1_depths_19 : decode cX1_depths 19 = .ok (.iadd, 1) := by decide +kernel
theorem dX1_depths_20 : decode cX1_depths 20 = .ok (.istore_n 1, 1) := by decide +kernel
theorem dX1_depths_21 : decode cX1_depths 21 = .ok (.iinc 2 1, 3) := by decide +kernel
theorem dX1_depths_24 : decode cX1_depths 24 = .ok (.goto (-20), 3) := by decide +kernel
theorem dX1_depths_27 : decode cX1_depths 27 = .ok (.iload_n 1, 1) := by decide +kernel
theorem dX1_depths_28 : decode cX1_depths 28 = .ok (.ireturn, 1) := by decide +kernel
theorem dX1_groups_0 : decode cX1_groups 0 = .ok (.aload_n 0, 1) := by decide +kernel
theorem dX1_groups_1 : decode cX1_groups 1 = .ok (.invokevirtual 21, 3) := by decide +kernel
theorem dX1_groups_4 : decode cX1_groups 4 = .ok (.aload_n 0, 1) := by decide +kernel
theorem dX1_groups_5 : decode cX1_groups 5 = .ok (.invokevirtual 40, 3) := by decide +kernel
theorem dX1_groups_8 : decode cX1_groups 8 = .ok (.isub, 1) := by decide +kernel
theorem dX1_groups_9 : decode cX1_groups 9 = .ok (.ireturn, 1) := by decide +kernel
theorem dX1_told_0 : decode cX1_told 0 = .ok (.iconst 0, 1) := by decide +kernel
theorem dX1_told_1 : decode cX1_told 1 = .ok (.istore_n 1, 1) := by decide +kernel
theorem dX1_told_2 : decode cX1_told 2 = .ok (.iconst 0, 1) := by decide +kernel
theorem dX1_told_3 : decode cX1_told 3 = .ok (.istore_n 2, 1) := by decide +kernel
theorem dX1_told_4 : decode cX1_told 4 = .ok (.iload_n 2, 1) := by decide +kernel
theorem dX1_told_5 : decode cX1_told 5 = .ok (.aload_n 0, 1) := by decide +kernel
theorem dX1_told_6 : decode cX1_told 6 = .ok (.invokevirtual 21, 3) := by decide +kernel
theorem dX1_told_9 : decode cX1_told 9 = .ok (.if_icmp .ge 20, 3) := by decide +kernel
theorem dX1_told_12 : decode cX1_told 12 = .ok (.aload_n 0, 1) := by decide +kernel
theorem dX1_told_13 : decode cX1_told 13 = .ok (.iload_n 2, 1) := by decide +kernel
theorem dX1_told_14 : decode cX1_told 14 = .ok (.invokevirtual 43, 3) := by decide +kernel
theorem dX1_told_17 : decode cX1_told 17 = .ok (.ifCond .eq 6, 3) := by decide +kernel
theorem dX1_told_20 : decode cX1_told 20 = .ok (.iinc 1 1, 3) := by decide +kernel
theorem dX1_told_23 : decode cX1_told 23 = .ok (.iinc 2 1, 3) := by decide +kernel
theorem dX1_told_26 : decode cX1_told 26 = .ok (.goto (-22), 3) := by decide +kernel
theorem dX1_told_29 : decode cX1_told 29 = .ok (.iload_n 1, 1) := by decide +kernel
theorem dX1_told_30 : decode cX1_told 30 = .ok (.ireturn, 1) := by decide +kernel
theorem dX1_standing_0 : decode cX1_standing 0 = .ok (.iconst 0, 1) := by decide +kernel
theorem dX1_standing_1 : decode cX1_standing 1 = .ok (.istore_n 1, 1) := by decide +kernel
theorem dX1_standing_2 : decode cX1_standing 2 = .ok (.iconst 0, 1) := by decide +kernel
theorem dX1_standing_3 : decode cX1_standing 3 = .ok (.istore_n 2, 1) := by decide +kernel
theorem dX1_standing_4 : decode cX1_standing 4 = .ok (.iload_n 2, 1) := by decide +kernel
theorem dX1_standing_5 : decode cX1_standing 5 = .ok (.aload_n 0, 1) := by decide +kernel
theorem dX1_standing_6 : decode cX1_standing 6 = .ok (.invokevirtual 21, 3) := by decide +kernel
theorem dX1_standing_9 : decode cX1_standing 9 = .ok (.if_icmp .ge 20, 3) := by decide +kernel
theorem dX1_standing_12 : decode cX1_standing 12 = .ok (.aload_n 0, 1) := by decide +kernel
theorem dX1_standing_13 : decode cX1_standing 13 = .ok (.iload_n 2, 1) := by decide +kernel
theorem dX1_standing_14 : decode cX1_standing 14 = .ok (.invokevirtual 46, 3) := by decide +kernel
theorem dX1_standing_17 : decode cX1_standing 17 = .ok (.ifCond .eq 6, 3) := by decide +kernel
theorem dX1_standing_20 : decode cX1_standing 20 = .ok (.iinc 1 1, 3) := by decide +kernel
theorem dX1_standing_23 : decode cX1_standing 23 = .ok (.iinc 2 1, 3) := by decide +kernel
theorem dX1_standing_26 : decode cX1_standing 26 = .ok (.goto (-22), 3) := by decide +kernel
theorem dX1_standing_29 : decode cX1_standing 29 = .ok (.iload_n 1, 1) := by decide +kernel
theorem dX1_standing_30 : decode cX1_standing 30 = .ok (.ireturn, 1) := by decide +kernel
theorem dX1_astrayAndTangled_0 : decode cX1_astrayAndTangled 0 = .ok (.iconst 0, 1) := by decide +kernel
theorem dX1_astrayAndTangled_1 : decode cX1_astrayAndTangled 1 = .ok (.istore_n 1, 1) := by decide +kernel
theorem dX1_astrayAndTangled_2 : decode cX1_astrayAndTangled 2 = .ok (.iconst 0, 1) := by decide +kernel
theorem dX1_astrayAndTangled_3 : decode cX1_astrayAndTangled 3 = .ok (.istore_n 2, 1) := by decide +kernel
theorem dX1_astrayAndTangled_4 : decode cX1_astrayAndTangled 4 = .ok (.iload_n 2, 1) := by decide +kernel
theorem dX1_astrayAndTangled_5 : decode cX1_astrayAndTangled 5 = .ok (.aload_n 0, 1) := by decide +kernel
theorem dX1_astrayAndTangled_6 : decode cX1_astrayAndTangled 6 = .ok (.invokevirtual 21, 3) := by decide +kernel
theorem dX1_astrayAndTangled_9 : decode cX1_astrayAndTangled 9 = .ok (.if_icmp .ge 36, 3) := by decide +kernel
theorem dX1_astrayAndTangled_12 : decode cX1_astrayAndTangled 12 = .ok (.aload_n 0, 1) := by decide +kernel
theorem dX1_astrayAndTangled_13 : decode cX1_astrayAndTangled 13 = .ok (.iload_n 2, 1) := by decide +kernel
theorem dX1_astrayAndTangled_14 : decode cX1_astrayAndTangled 14 = .ok (.invokevirtual 43, 3) := by decide +kernel
theorem dX1_astrayAndTangled_17 : decode cX1_astrayAndTangled 17 = .ok (.ifCond .eq 22, 3) := by decide +kernel
theorem dX1_astrayAndTangled_20 : decode cX1_astrayAndTangled 20 = .ok (.aload_n 0, 1) := by decide +kernel
theorem dX1_astrayAndTangled_21 : decode cX1_astrayAndTangled 21 = .ok (.iload_n 2, 1) := by decide +kernel
theorem dX1_astrayAndTangled_22 : decode cX1_astrayAndTangled 22 = .ok (.invokevirtual 46, 3) := by decide +kernel
theorem dX1_astrayAndTangled_25 : decode cX1_astrayAndTangled 25 = .ok (.ifCond .ne 14, 3) := by decide +kernel
theorem dX1_astrayAndTangled_28 : decode cX1_astrayAndTangled 28 = .ok (.aload_n 0, 1) := by decide +kernel
theorem dX1_astrayAndTangled_29 : decode cX1_astrayAndTangled 29 = .ok (.iload_n 2, 1) := by decide +kernel
theorem dX1_astrayAndTangled_30 : decode cX1_astrayAndTangled 30 = .ok (.invokevirtual 49, 3) := by decide +kernel
theorem dX1_astrayAndTangled_33 : decode cX1_astrayAndTangled 33 = .ok (.ifCond .eq 6, 3) := by decide +kernel
theorem dX1_astrayAndTangled_36 : decode cX1_astrayAndTangled 36 = .ok (.iinc 1 1, 3) := by decide +kernel
theorem dX1_astrayAndTangled_39 : decode cX1_astrayAndTangled 39 = .ok (.iinc 2 1, 3) := by decide +kernel
theorem dX1_astrayAndTangled_42 : decode cX1_astrayAndTangled 42 = .ok (.goto (-38), 3) := by decide +kernel
theorem dX1_astrayAndTangled_45 : decode cX1_astrayAndTangled 45 = .ok (.iload_n 1, 1) := by decide +kernel
theorem dX1_astrayAndTangled_46 : decode cX1_astrayAndTangled 46 = .ok (.ireturn, 1) := by decide +kernel
theorem dX2_init_0 : decode cX2_init 0 = .ok (.aload_n 0, 1) := by decide +kernel
theorem dX2_init_1 : decode cX2_init 1 = .ok (.invokespecial 3, 3) := by decide +kernel
theorem dX2_init_4 : decode cX2_init 4 = .ok (.aload_n 0, 1) := by decide +kernel
theorem dX2_init_5 : decode cX2_init 5 = .ok (.bipush 8, 2) := by decide +kernel
theorem dX2_init_7 : decode cX2_init 7 = .ok (.newarray .int, 2) := by decide +kernel
theorem dX2_init_9 : decode cX2_init 9 = .ok (.putfield 9, 3) := by decide +kernel
theorem dX2_init_12 : decode cX2_init 12 = .ok (.aload_n 0, 1) := by decide +kernel
theorem dX2_init_13 : decode cX2_init 13 = .ok (.bipush 32, 2) := by decide +kernel
theorem dX2_init_15 : decode cX2_init 15 = .ok (.newarray .int, 2) := by decide +kernel
theorem dX2_init_17 : decode cX2_init 17 = .ok (.putfield 15, 3) := by decide +kernel
theorem dX2_init_20 : decode cX2_init 20 = .ok (.aload_n 0, 1) := by decide +kernel
theorem dX2_init_21 : decode cX2_init 21 = .ok (.bipush 32, 2) := by decide +kernel
theorem dX2_init_23 : decode cX2_init 23 = .ok (.newarray .int, 2) := by decide +kernel
theorem dX2_init_25 : decode cX2_init 25 = .ok (.putfield 18, 3) := by decide +kernel
theorem dX2_init_28 : decode cX2_init 28 = .ok (.aload_n 0, 1) := by decide +kernel
theorem dX2_init_29 : decode cX2_init 29 = .ok (.iconst 4, 1) := by decide +kernel
theorem dX2_init_30 : decode cX2_init 30 = .ok (.newarray .int, 2) := by decide +kernel
theorem dX2_init_32 : decode cX2_init 32 = .ok (.putfield 21, 3) := by decide +kernel
theorem dX2_init_35 : decode cX2_init 35 = .ok (.aload_n 0, 1) := by decide +kernel
theorem dX2_init_36 : decode cX2_init 36 = .ok (.iconst 4, 1) := by decide +kernel
theorem dX2_init_37 : decode cX2_init 37 = .ok (.newarray .int, 2) := by decide +kernel
theorem dX2_init_39 : decode cX2_init 39 = .ok (.putfield 24, 3) := by decide +kernel
theorem dX2_init_42 : decode cX2_init 42 = .ok (.aload_n 0, 1) := by decide +kernel
theorem dX2_init_43 : decode cX2_init 43 = .ok (.iconst 0, 1) := by decide +kernel
theorem dX2_init_44 : decode cX2_init 44 = .ok (.putfield 27, 3) := by decide +kernel
theorem dX2_init_47 : decode cX2_init 47 = .ok (.aload_n 0, 1) := by decide +kernel
theorem dX2_init_48 : decode cX2_init 48 = .ok (.iconst 0, 1) := by decide +kernel
theorem dX2_init_49 : decode cX2_init 49 = .ok (.putfield 31, 3) := by decide +kernel
theorem dX2_init_52 : decode cX2_init 52 = .ok (.aload_n 0, 1) := by decide +kernel
theorem dX2_init_53 : decode cX2_init 53 = .ok (.bipush 37, 2) := by decide +kernel
theorem dX2_init_55 : decode cX2_init 55 = .ok (.putfield 34, 3) := by decide +kernel
theorem dX2_init_58 : decode cX2_init 58 = .ok (.return_, 1) := by decide +kernel
theorem dX2_find_0 : decode cX2_find 0 = .ok (.aload_n 0, 1) := by decide +kernel
theorem dX2_find_1 : decode cX2_find 1 = .ok (.bipush 37, 2) := by decide +kernel
theorem dX2_find_3 : decode cX2_find 3 = .ok (.putfield 34, 3) := by decide +kernel
theorem dX2_find_6 : decode cX2_find 6 = .ok (.aload_n 0, 1) := by decide +kernel
theorem dX2_find_7 : decode cX2_find 7 = .ok (.aload_n 1, 1) := by decide +kernel
theorem dX2_find_8 : decode cX2_find 8 = .ok (.invokevirtual 37, 3) := by decide +kernel
theorem dX2_find_11 : decode cX2_find 11 = .ok (.aload_n 0, 1) := by decide +kernel
theorem dX2_find_12 : decode cX2_find 12 = .ok (.iconst 0, 1) := by decide +kernel
theorem dX2_find_13 : decode cX2_find 13 = .ok (.iconst 0, 1) := by decide +kernel
theorem dX2_find_14 : decode cX2_find 14 = .ok (.invokestatic 41, 3) := by decide +kernel
theorem dX2_find_17 : decode cX2_find 17 = .ok (.aload_n 0, 1) := by decide +kernel
theorem dX2_find_18 : decode cX2_find 18 = .ok (.getfield 34, 3) := by decide +kernel
theorem dX2_find_21 : decode cX2_find 21 = .ok (.bipush 37, 2) := by decide +kernel
theorem dX2_find_23 : decode cX2_find 23 = .ok (.if_icmp .ge 10, 3) := by decide +kernel
theorem dX2_find_26 : decode cX2_find 26 = .ok (.aload_n 0, 1) := by decide +kernel
theorem dX2_find_27 : decode cX2_find 27 = .ok (.getfield 34, 3) := by decide +kernel
theorem dX2_find_30 : decode cX2_find 30 = .ok (.goto 5, 3) := by decide +kernel
theorem dX2_find_33 : decode cX2_find 33 = .ok (.ldc 45, 2) := by decide +kernel
theorem dX2_find_35 : decode cX2_find 35 = .ok (.ireturn, 1) := by decide +kernel
theorem dX2_stepsOf_0 : decode cX2_stepsOf 0 = .ok (.aload_n 0, 1) := by decide +kernel
theorem dX2_stepsOf_1 : decode cX2_stepsOf 1 = .ok (.getfield 24, 3) := by decide +kernel
theorem dX2_stepsOf_4 : decode cX2_stepsOf 4 = .ok (.iload_n 1, 1) := by decide +kernel
theorem dX2_stepsOf_5 : decode cX2_stepsOf 5 = .ok (.invokestatic 46, 3) := by decide +kernel
theorem dX2_stepsOf_8 : decode cX2_stepsOf 8 = .ok (.ireturn, 1) := by decide +kernel
theorem dX2_at_0 : decode cX2_at 0 = .ok (.iload_n 1, 1) := by decide +kernel
theorem dX2_at_1 : decode cX2_at 1 = .ok (.ifCond .lt 15, 3) := by decide +kernel
theorem dX2_at_4 : decode cX2_at 4 = .ok (.iload_n 1, 1) := by decide +kernel
theorem dX2_at_5 : decode cX2_at 5 = .ok (.aload_n 0, 1) := by decide +kernel
theorem dX2_at_6 : decode cX2_at 6 = .ok (.arraylength, 1) := by decide +kernel
theorem dX2_at_7 : decode cX2_at 7 = .ok (.if_icmp .ge 9, 3) := by decide +kernel
theorem dX2_at_10 : decode cX2_at 10 = .ok (.aload_n 0, 1) := by decide +kernel
theorem dX2_at_11 : decode cX2_at 11 = .ok (.iload_n 1, 1) := by decide +kernel
theorem dX2_at_12 : decode cX2_at 12 = .ok (.iaload, 1) := by decide +kernel
theorem dX2_at_13 : decode cX2_at 13 = .ok (.goto 4, 3) := by decide +kernel
theorem dX2_at_16 : decode cX2_at 16 = .ok (.iconst 0, 1) := by decide +kernel
theorem dX2_at_17 : decode cX2_at 17 = .ok (.ireturn, 1) := by decide +kernel
theorem dX2_put_0 : decode cX2_put 0 = .ok (.iload_n 1, 1) := by decide +kernel
theorem dX2_put_1 : decode cX2_put 1 = .ok (.ifCond .lt 13, 3) := by decide +kernel
theorem dX2_put_4 : decode cX2_put 4 = .ok (.iload_n 1, 1) := by decide +kernel
theorem dX2_put_5 : decode cX2_put 5 = .ok (.aload_n 0, 1) := by decide +kernel
theorem dX2_put_6 : decode cX2_put 6 = .ok (.arraylength, 1) := by decide +kernel
theorem dX2_put_7 : decode cX2_put 7 = .ok (.if_icmp .ge 7, 3) := by decide +kernel
theorem dX2_put_10 : decode cX2_put 10 = .ok (.aload_n 0, 1) := by decide +kernel
theorem dX2_put_11 : decode cX2_put 11 = .ok (.iload_n 1, 1) := by decide +kernel
theorem dX2_put_12 : decode cX2_put 12 = .ok (.iload_n 2, 1) := by decide +kernel
theorem dX2_put_13 : decode cX2_put 13 = .ok (.iastore, 1) := by decide +kernel
theorem dX2_put_14 : decode cX2_put 14 = .ok (.return_, 1) := by decide +kernel
theorem dX2_cell_0 : decode cX2_cell 0 = .ok (.iload_n 0, 1) := by decide +kernel
theorem dX2_cell_1 : decode cX2_cell 1 = .ok (.bipush 8, 2) := by decide +kernel
theorem dX2_cell_3 : decode cX2_cell 3 = .ok (.imul, 1) := by decide +kernel
theorem dX2_cell_4 : decode cX2_cell 4 = .ok (.iload_n 1, 1) := by decide +kernel
theorem dX2_cell_5 : decode cX2_cell 5 = .ok (.iadd, 1) := by decide +kernel
theorem dX2_cell_6 : decode cX2_cell 6 = .ok (.ireturn, 1) := by decide +kernel
theorem dX2_writeEquations_0 : decode cX2_writeEquations 0 = .ok (.aload_n 0, 1) := by decide +kernel
theorem dX2_writeEquations_1 : decode cX2_writeEquations 1 = .ok (.iconst 0, 1) := by decide +kernel
theorem dX2_writeEquations_2 : decode cX2_writeEquations 2 = .ok (.putfield 27, 3) := by decide +kernel
theorem dX2_writeEquations_5 : decode cX2_writeEquations 5 = .ok (.aload_n 0, 1) := by decide +kernel
theorem dX2_writeEquations_6 : decode cX2_writeEquations 6 = .ok (.aload_n 1, 1) := by decide +kernel
theorem dX2_writeEquations_7 : decode cX2_writeEquations 7 = .ok (.invokevirtual 50, 3) := by decide +kernel
theorem dX2_writeEquations_10 : decode cX2_writeEquations 10 = .ok (.putfield 31, 3) := by decide +kernel
theorem dX2_writeEquations_13 : decode cX2_writeEquations 13 = .ok (.iconst 0, 1) := by decide +kernel
theorem dX2_writeEquations_14 : decode cX2_writeEquations 14 = .ok (.istore_n 2, 1) := by decide +kernel
theorem dX2_writeEquations_15 : decode cX2_writeEquations 15 = .ok (.iload_n 2, 1) := by decide +kernel
theorem dX2_writeEquations_16 : decode cX2_writeEquations 16 = .ok (.aload_n 1, 1) := by decide +kernel
theorem dX2_writeEquations_17 : decode cX2_writeEquations 17 = .ok (.invokevirtual 55, 3) := by decide +kernel
theorem dX2_writeEquations_20 : decode cX2_writeEquations 20 = .ok (.if_icmp .ge 60, 3) := by decide +kernel
theorem dX2_writeEquations_23 : decode cX2_writeEquations 23 = .ok (.aload_n 1, 1) := by decide +kernel
theorem dX2_writeEquations_24 : decode cX2_writeEquations 24 = .ok (.iload_n 2, 1) := by decide +kernel
theorem dX2_writeEquations_25 : decode cX2_writeEquations 25 = .ok (.invokevirtual 58, 3) := by decide +kernel
theorem dX2_writeEquations_28 : decode cX2_writeEquations 28 = .ok (.ifCond .eq 46, 3) := by decide +kernel
theorem dX2_writeEquations_31 : decode cX2_writeEquations 31 = .ok (.aload_n 1, 1) := by decide +kernel
theorem dX2_writeEquations_32 : decode cX2_writeEquations 32 = .ok (.iload_n 2, 1) := by decide +kernel
theorem dX2_writeEquations_33 : decode cX2_writeEquations 33 = .ok (.bipush 6, 2) := by decide +kernel
theorem dX2_writeEquations_35 : decode cX2_writeEquations 35 = .ok (.invokevirtual 62, 3) := by decide +kernel
theorem dX2_writeEquations_38 : decode cX2_writeEquations 38 = .ok (.aload_n 1, 1) := by decide +kernel
theorem dX2_writeEquations_39 : decode cX2_writeEquations 39 = .ok (.iload_n 2, 1) := by decide +kernel
theorem dX2_writeEquations_40 : decode cX2_writeEquations 40 = .ok (.iconst 0, 1) := by decide +kernel
theorem dX2_writeEquations_41 : decode cX2_writeEquations 41 = .ok (.invokevirtual 62, 3) := by decide +kernel
theorem dX2_writeEquations_44 : decode cX2_writeEquations 44 = .ok (.isub, 1) := by decide +kernel
theorem dX2_writeEquations_45 : decode cX2_writeEquations 45 = .ok (.istore_n 3, 1) := by decide +kernel
theorem dX2_writeEquations_46 : decode cX2_writeEquations 46 = .ok (.aload_n 0, 1) := by decide +kernel
theorem dX2_writeEquations_47 : decode cX2_writeEquations 47 = .ok (.getfield 9, 3) := by decide +kernel
theorem dX2_writeEquations_50 : decode cX2_writeEquations 50 = .ok (.aload_n 0, 1) := by decide +kernel
theorem dX2_writeEquations_51 : decode cX2_writeEquations 51 = .ok (.getfield 27, 3) := by decide +kernel
theorem dX2_writeEquations_54 : decode cX2_writeEquations 54 = .ok (.iload_n 3, 1) := by decide +kernel
theorem dX2_writeEquations_55 : decode cX2_writeEquations 55 = .ok (.invokestatic 66, 3) := by decide +kernel
theorem dX2_writeEquations_58 : decode cX2_writeEquations 58 = .ok (.aload_n 0, 1) := by decide +kernel
theorem dX2_writeEquations_59 : decode cX2_writeEquations 59 = .ok (.aload_n 1, 1) := by decide +kernel
theorem dX2_writeEquations_60 : decode cX2_writeEquations 60 = .ok (.iload_n 2, 1) := by decide +kernel
theorem dX2_writeEquations_61 : decode cX2_writeEquations 61 = .ok (.invokevirtual 70, 3) := by decide +kernel
theorem dX2_writeEquations_64 : decode cX2_writeEquations 64 = .ok (.aload_n 0, 1) := by decide +kernel
theorem dX2_writeEquations_65 : decode cX2_writeEquations 65 = .ok (.dup, 1) := by decide +kernel
theorem dX2_writeEquations_66 : decode cX2_writeEquations 66 = .ok (.getfield 27, 3) := by decide +kernel
theorem dX2_writeEquations_69 : decode cX2_writeEquations 69 = .ok (.iconst 1, 1) := by decide +kernel
theorem dX2_writeEquations_70 : decode cX2_writeEquations 70 = .ok (.iadd, 1) := by decide +kernel
theorem dX2_writeEquations_71 : decode cX2_writeEquations 71 = .ok (.putfield 27, 3) := by decide +kernel
theorem dX2_writeEquations_74 : decode cX2_writeEquations 74 = .ok (.iinc 2 1, 3) := by decide +kernel
theorem dX2_writeEquations_77 : decode cX2_writeEquations 77 = .ok (.goto (-62), 3) := by decide +kernel
theorem dX2_writeEquations_80 : decode cX2_writeEquations 80 = .ok (.return_, 1) := by decide +kernel
theorem dX2_writeEffects_0 : decode cX2_writeEffects 0 = .ok (.iconst 0, 1) := by decide +kernel
theorem dX2_writeEffects_1 : decode cX2_writeEffects 1 = .ok (.istore_n 3, 1) := by decide +kernel
theorem dX2_writeEffects_2 : decode cX2_writeEffects 2 = .ok (.aload_n 0, 1) := by decide +kernel
theorem dX2_writeEffects_3 : decode cX2_writeEffects 3 = .ok (.getfield 31, 3) := by decide +kernel
theorem dX2_writeEffects_6 : decode cX2_writeEffects 6 = .ok (.iconst 1, 1) := by decide +kernel
theorem dX2_writeEffects_7 : decode cX2_writeEffects 7 = .ok (.isub, 1) := by decide +kernel
theorem dX2_writeEffects_8 : decode cX2_writeEffects 8 = .ok (.istore 4, 2) := by decide +kernel
theorem dX2_writeEffects_10 : decode cX2_writeEffects 10 = .ok (.iload 4, 2) := by decide +kernel
theorem dX2_writeEffects_12 : decode cX2_writeEffects 12 = .ok (.ifCond .lt 84, 3) := by decide +kernel
theorem dX2_writeEffects_15 : decode cX2_writeEffects 15 = .ok (.aload_n 1, 1) := by decide +kernel
theorem dX2_writeEffects_16 : decode cX2_writeEffects 16 = .ok (.iload 4, 2) := by decide +kernel
theorem dX2_writeEffects_18 : decode cX2_writeEffects 18 = .ok (.iconst 0, 1) := by decide +kernel
theorem dX2_writeEffects_19 : decode cX2_writeEffects 19 = .ok (.invokevirtual 74, 3) := by decide +kernel
theorem dX2_writeEffects_22 : decode cX2_writeEffects 22 = .ok (.iload_n 2, 1) := by decide +kernel
theorem dX2_writeEffects_23 : decode cX2_writeEffects 23 = .ok (.ishr, 1) := by decide +kernel
theorem dX2_writeEffects_24 : decode cX2_writeEffects 24 = .ok (.iconst 1, 1) := by decide +kernel
theorem dX2_writeEffects_25 : decode cX2_writeEffects 25 = .ok (.iand, 1) := by decide +kernel
theorem dX2_writeEffects_26 : decode cX2_writeEffects 26 = .ok (.istore 5, 2) := by decide +kernel
theorem dX2_writeEffects_28 : decode cX2_writeEffects 28 = .ok (.aload_n 1, 1) := by decide +kernel
theorem dX2_writeEffects_29 : decode cX2_writeEffects 29 = .ok (.iload 4, 2) := by decide +kernel
theorem dX2_writeEffects_31 : decode cX2_writeEffects 31 = .ok (.iconst 1, 1) := by decide +kernel
theorem dX2_writeEffects_32 : decode cX2_writeEffects 32 = .ok (.invokevirtual 74, 3) := by decide +kernel
theorem dX2_writeEffects_35 : decode cX2_writeEffects 35 = .ok (.iload_n 2, 1) := by decide +kernel
theorem dX2_writeEffects_36 : decode cX2_writeEffects 36 = .ok (.ishr, 1) := by decide +kernel
theorem dX2_writeEffects_37 : decode cX2_writeEffects 37 = .ok (.iconst 1, 1) := by decide +kernel
theorem dX2_writeEffects_38 : decode cX2_writeEffects 38 = .ok (.iand, 1) := by decide +kernel
theorem dX2_writeEffects_39 : decode cX2_writeEffects 39 = .ok (.istore 6, 2) := by decide +kernel
theorem dX2_writeEffects_41 : decode cX2_writeEffects 41 = .ok (.aload_n 0, 1) := by decide +kernel
theorem dX2_writeEffects_42 : decode cX2_writeEffects 42 = .ok (.getfield 15, 3) := by decide +kernel
theorem dX2_writeEffects_45 : decode cX2_writeEffects 45 = .ok (.iload 4, 2) := by decide +kernel
theorem dX2_writeEffects_47 : decode cX2_writeEffects 47 = .ok (.aload_n 0, 1) := by decide +kernel
theorem dX2_writeEffects_48 : decode cX2_writeEffects 48 = .ok (.getfield 27, 3) := by decide +kernel
theorem dX2_writeEffects_51 : decode cX2_writeEffects 51 = .ok (.invokestatic 77, 3) := by decide +kernel
theorem dX2_writeEffects_54 : decode cX2_writeEffects 54 = .ok (.iload 5, 2) := by decide +kernel
theorem dX2_writeEffects_56 : decode cX2_writeEffects 56 = .ok (.iload 6, 2) := by decide +kernel
theorem dX2_writeEffects_58 : decode cX2_writeEffects 58 = .ok (.isub, 1) := by decide +kernel
theorem dX2_writeEffects_59 : decode cX2_writeEffects 59 = .ok (.invokestatic 66, 3) := by decide +kernel
theorem dX2_writeEffects_62 : decode cX2_writeEffects 62 = .ok (.aload_n 0, 1) := by decide +kernel
theorem dX2_writeEffects_63 : decode cX2_writeEffects 63 = .ok (.getfield 18, 3) := by decide +kernel
theorem dX2_writeEffects_66 : decode cX2_writeEffects 66 = .ok (.iload 4, 2) := by decide +kernel
theorem dX2_writeEffects_68 : decode cX2_writeEffects 68 = .ok (.aload_n 0, 1) := by decide +kernel
theorem dX2_writeEffects_69 : decode cX2_writeEffects 69 = .ok (.getfield 27, 3) := by decide +kernel
theorem dX2_writeEffects_72 : decode cX2_writeEffects 72 = .ok (.invokestatic 77, 3) := by decide +kernel
theorem dX2_writeEffects_75 : decode cX2_writeEffects 75 = .ok (.iload_n 3, 1) := by decide +kernel
theorem dX2_writeEffects_76 : decode cX2_writeEffects 76 = .ok (.invokestatic 66, 3) := by decide +kernel
theorem dX2_writeEffects_79 : decode cX2_writeEffects 79 = .ok (.iload_n 3, 1) := by decide +kernel
theorem dX2_writeEffects_80 : decode cX2_writeEffects 80 = .ok (.bipush 9, 2) := by decide +kernel
theorem dX2_writeEffects_82 : decode cX2_writeEffects 82 = .ok (.iload 5, 2) := by decide +kernel
theorem dX2_writeEffects_84 : decode cX2_writeEffects 84 = .ok (.iload 6, 2) := by decide +kernel
theorem dX2_writeEffects_86 : decode cX2_writeEffects 86 = .ok (.iadd, 1) := by decide +kernel
theorem dX2_writeEffects_87 : decode cX2_writeEffects 87 = .ok (.imul, 1) := by decide +kernel
theorem dX2_writeEffects_88 : decode cX2_writeEffects 88 = .ok (.iadd, 1) := by decide +kernel
theorem dX2_writeEffects_89 : decode cX2_writeEffects 89 = .ok (.istore_n 3, 1) := by decide +kernel
theorem dX2_writeEffects_90 : decode cX2_writeEffects 90 = .ok (.iinc 4 (-1), 3) := by decide +kernel
theorem dX2_writeEffects_93 : decode cX2_writeEffects 93 = .ok (.goto (-83), 3) := by decide +kernel
theorem dX2_writeEffects_96 : decode cX2_writeEffects 96 = .ok (.return_, 1) := by decide +kernel
theorem dX2_search_0 : decode cX2_search 0 = .ok (.aload_n 0, 1) := by decide +kernel
theorem dX2_search_1 : decode cX2_search 1 = .ok (.invokevirtual 80, 3) := by decide +kernel
theorem dX2_search_4 : decode cX2_search 4 = .ok (.istore_n 3, 1) := by decide +kernel
theorem dX2_search_5 : decode cX2_search 5 = .ok (.iload_n 2, 1) := by decide +kernel
theorem dX2_search_6 : decode cX2_search 6 = .ok (.iload_n 3, 1) := by decide +kernel
theorem dX2_search_7 : decode cX2_search 7 = .ok (.iadd, 1) := by decide +kernel
theorem dX2_search_8 : decode cX2_search 8 = .ok (.aload_n 0, 1) := by decide +kernel
theorem dX2_search_9 : decode cX2_search 9 = .ok (.getfield 34, 3) := by decide +kernel
theorem dX2_search_12 : decode cX2_search 12 = .ok (.if_icmp .lt 4, 3) := by decide +kernel
theorem dX2_search_15 : decode cX2_search 15 = .ok (.return_, 1) := by decide +kernel
theorem dX2_search_16 : decode cX2_search 16 = .ok (.iload_n 1, 1) := by decide +kernel
theorem dX2_search_17 : decode cX2_search 17 = .ok (.aload_n 0, 1) := by decide +kernel
theorem dX2_search_18 : decode cX2_search 18 = .ok (.getfield 31, 3) := by decide +kernel
theorem dX2_search_21 : decode cX2_search 21 = .ok (.if_icmp .ge 8, 3) := by decide +kernel
theorem dX2_search_24 : decode cX2_search 24 = .ok (.iload_n 1, 1) := by decide +kernel
theorem dX2_search_25 : decode cX2_search 25 = .ok (.iconst 4, 1) := by decide +kernel
theorem dX2_search_26 : decode cX2_search 26 = .ok (.if_icmp .lt 13, 3) := by decide +kernel
theorem dX2_search_29 : decode cX2_search 29 = .ok (.iload_n 3, 1) := by decide +kernel
theorem dX2_search_30 : decode cX2_search 30 = .ok (.ifCond .ne 8, 3) := by decide +kernel
theorem dX2_search_33 : decode cX2_search 33 = .ok (.aload_n 0, 1) := by decide +kernel
theorem dX2_search_34 : decode cX2_search 34 = .ok (.iload_n 2, 1) := by decide +kernel
theorem dX2_search_35 : decode cX2_search 35 = .ok (.invokevirtual 83, 3) := by decide +kernel
theorem dX2_search_38 : decode cX2_search 38 = .ok (.return_, 1) := by decide +kernel
theorem dX2_search_39 : decode cX2_search 39 = .ok (.aload_n 0, 1) := by decide +kernel
theorem dX2_search_40 : decode cX2_search 40 = .ok (.iload_n 1, 1) := by decide +kernel
theorem dX2_search_41 : decode cX2_search 41 = .ok (.iconst 1, 1) := by decide +kernel
theorem dX2_search_42 : decode cX2_search 42 = .ok (.invokevirtual 87, 3) := by decide +kernel
theorem dX2_search_45 : decode cX2_search 45 = .ok (.istore 4, 2) := by decide +kernel
theorem dX2_search_47 : decode cX2_search 47 = .ok (.aload_n 0, 1) := by decide +kernel
theorem dX2_search_48 : decode cX2_search 48 = .ok (.iload_n 1, 1) := by decide +kernel
theorem dX2_search_49 : decode cX2_search 49 = .ok (.iconst (-1), 1) := by decide +kernel
theorem dX2_search_50 : decode cX2_search 50 = .ok (.invokevirtual 87, 3) := by decide +kernel
theorem dX2_search_53 : decode cX2_search 53 = .ok (.ineg, 1) := by decide +kernel
theorem dX2_search_54 : decode cX2_search 54 = .ok (.istore 5, 2) := by decide +kernel
theorem dX2_search_56 : decode cX2_search 56 = .ok (.iload 5, 2) := by decide +kernel
theorem dX2_search_58 : decode cX2_search 58 = .ok (.istore 6, 2) := by decide +kernel
theorem dX2_search_60 : decode cX2_search 60 = .ok (.iload 6, 2) := by decide +kernel
theorem dX2_search_62 : decode cX2_search 62 = .ok (.iload 4, 2) := by decide +kernel
theorem dX2_search_64 : decode cX2_search 64 = .ok (.if_icmp .gt 48, 3) := by decide +kernel
theorem dX2_search_67 : decode cX2_search 67 = .ok (.aload_n 0, 1) := by decide +kernel
theorem dX2_search_68 : decode cX2_search 68 = .ok (.getfield 21, 3) := by decide +kernel
theorem dX2_search_71 : decode cX2_search 71 = .ok (.iload_n 1, 1) := by decide +kernel
theorem dX2_search_72 : decode cX2_search 72 = .ok (.iload 6, 2) := by decide +kernel
theorem dX2_search_74 : decode cX2_search 74 = .ok (.invokestatic 66, 3) := by decide +kernel
theorem dX2_search_77 : decode cX2_search 77 = .ok (.aload_n 0, 1) := by decide +kernel
theorem dX2_search_78 : decode cX2_search 78 = .ok (.iload_n 1, 1) := by decide +kernel
theorem dX2_search_79 : decode cX2_search 79 = .ok (.iload 6, 2) := by decide +kernel
theorem dX2_search_81 : decode cX2_search 81 = .ok (.invokevirtual 90, 3) := by decide +kernel
theorem dX2_search_84 : decode cX2_search 84 = .ok (.aload_n 0, 1) := by decide +kernel
theorem dX2_search_85 : decode cX2_search 85 = .ok (.iload_n 1, 1) := by decide +kernel
theorem dX2_search_86 : decode cX2_search 86 = .ok (.iconst 1, 1) := by decide +kernel
theorem dX2_search_87 : decode cX2_search 87 = .ok (.iadd, 1) := by decide +kernel
theorem dX2_search_88 : decode cX2_search 88 = .ok (.iload_n 2, 1) := by decide +kernel
theorem dX2_search_89 : decode cX2_search 89 = .ok (.iload 6, 2) := by decide +kernel
theorem dX2_search_91 : decode cX2_search 91 = .ok (.invokestatic 94, 3) := by decide +kernel
theorem dX2_search_94 : decode cX2_search 94 = .ok (.iadd, 1) := by decide +kernel
theorem dX2_search_95 : decode cX2_search 95 = .ok (.invokestatic 41, 3) := by decide +kernel
theorem dX2_search_98 : decode cX2_search 98 = .ok (.aload_n 0, 1) := by decide +kernel
theorem dX2_search_99 : decode cX2_search 99 = .ok (.iload_n 1, 1) := by decide +kernel
theorem dX2_search_100 : decode cX2_search 100 = .ok (.iload 6, 2) := by decide +kernel
theorem dX2_search_102 : decode cX2_search 102 = .ok (.ineg, 1) := by decide +kernel
theorem dX2_search_103 : decode cX2_search 103 = .ok (.invokevirtual 90, 3) := by decide +kernel
theorem dX2_search_106 : decode cX2_search 106 = .ok (.iinc 6 1, 3) := by decide +kernel
theorem dX2_search_109 : decode cX2_search 109 = .ok (.goto (-49), 3) := by decide +kernel
theorem dX2_search_112 : decode cX2_search 112 = .ok (.return_, 1) := by decide +kernel
theorem dX2_greatestNeed_0 : decode cX2_greatestNeed 0 = .ok (.iconst 0, 1) := by decide +kernel
theorem dX2_greatestNeed_1 : decode cX2_greatestNeed 1 = .ok (.istore_n 1, 1) := by decide +kernel
theorem dX2_greatestNeed_2 : decode cX2_greatestNeed 2 = .ok (.iconst 0, 1) := by decide +kernel
theorem dX2_greatestNeed_3 : decode cX2_greatestNeed 3 = .ok (.istore_n 2, 1) := by decide +kernel
theorem dX2_greatestNeed_4 : decode cX2_greatestNeed 4 = .ok (.iload_n 2, 1) := by decide +kernel
theorem dX2_greatestNeed_5 : decode cX2_greatestNeed 5 = .ok (.aload_n 0, 1) := by decide +kernel
theorem dX2_greatestNeed_6 : decode cX2_greatestNeed 6 = .ok (.getfield 27, 3) := by decide +kernel
theorem dX2_greatestNeed_9 : decode cX2_greatestNeed 9 = .ok (.if_icmp .ge 25, 3) := by decide +kernel
theorem dX2_greatestNeed_12 : decode cX2_greatestNeed 12 = .ok (.iload_n 1, 1) := by decide +kernel
theorem dX2_greatestNeed_13 : decode cX2_greatestNeed 13 = .ok (.aload_n 0, 1) := by decide +kernel
theorem dX2_greatestNeed_14 : decode cX2_greatestNeed 14 = .ok (.getfield 9, 3) := by decide +kernel
theorem dX2_greatestNeed_17 : decode cX2_greatestNeed 17 = .ok (.iload_n 2, 1) := by decide +kernel
theorem dX2_greatestNeed_18 : decode cX2_greatestNeed 18 = .ok (.invokestatic 46, 3) := by decide +kernel
theorem dX2_greatestNeed_21 : decode cX2_greatestNeed 21 = .ok (.invokestatic 94, 3) := by decide +kernel
theorem dX2_greatestNeed_24 : decode cX2_greatestNeed 24 = .ok (.invokestatic 100, 3) := by decide +kernel
theorem dX2_greatestNeed_27 : decode cX2_greatestNeed 27 = .ok (.istore_n 1, 1) := by decide +kernel
theorem dX2_greatestNeed_28 : decode cX2_greatestNeed 28 = .ok (.iinc 2 1, 3) := by decide +kernel
theorem dX2_greatestNeed_31 : decode cX2_greatestNeed 31 = .ok (.goto (-27), 3) := by decide +kernel
theorem dX2_greatestNeed_34 : decode cX2_greatestNeed 34 = .ok (.iload_n 1, 1) := by decide +kernel
theorem dX2_greatestNeed_35 : decode cX2_greatestNeed 35 = .ok (.ireturn, 1) := by decide +kernel
theorem dX2_keepBest_0 : decode cX2_keepBest 0 = .ok (.aload_n 0, 1) := by decide +kernel
theorem dX2_keepBest_1 : decode cX2_keepBest 1 = .ok (.iload_n 1, 1) := by decide +kernel
theorem dX2_keepBest_2 : decode cX2_keepBest 2 = .ok (.putfield 34, 3) := by decide +kernel
theorem dX2_keepBest_5 : decode cX2_keepBest 5 = .ok (.aload_n 0, 1) := by decide +kernel
theorem dX2_keepBest_6 : decode cX2_keepBest 6 = .ok (.getfield 21, 3) := by decide +kernel
theorem dX2_keepBest_9 : decode cX2_keepBest 9 = .ok (.iconst 0, 1) := by decide +kernel
theorem dX2_keepBest_10 : decode cX2_keepBest 10 = .ok (.aload_n 0, 1) := by decide +kernel
theorem dX2_keepBest_11 : decode cX2_keepBest 11 = .ok (.getfield 24, 3) := by decide +kernel
theorem dX2_keepBest_14 : decode cX2_keepBest 14 = .ok (.iconst 0, 1) := by decide +kernel
theorem dX2_keepBest_15 : decode cX2_keepBest 15 = .ok (.iconst 4, 1) := by decide +kernel
theorem dX2_keepBest_16 : decode cX2_keepBest 16 = .ok (.invokestatic 103, 3) := by decide +kernel
theorem dX2_keepBest_19 : decode cX2_keepBest 19 = .ok (.return_, 1) := by decide +kernel
theorem dX2_approach_0 : decode cX2_approach 0 = .ok (.iconst 0, 1) := by decide +kernel
theorem dX2_approach_1 : decode cX2_approach 1 = .ok (.istore_n 3, 1) := by decide +kernel
theorem dX2_approach_2 : decode cX2_approach 2 = .ok (.iload_n 3, 1) := by decide +kernel
theorem dX2_approach_3 : decode cX2_approach 3 = .ok (.aload_n 0, 1) := by decide +kernel
theorem dX2_approach_4 : decode cX2_approach 4 = .ok (.getfield 27, 3) := by decide +kernel
theorem dX2_approach_7 : decode cX2_approach 7 = .ok (.if_icmp .ge 44, 3) := by decide +kernel
theorem dX2_approach_10 : decode cX2_approach 10 = .ok (.aload_n 0, 1) := by decide +kernel
theorem dX2_approach_11 : decode cX2_approach 11 = .ok (.getfield 15, 3) := by decide +kernel
theorem dX2_approach_14 : decode cX2_approach 14 = .ok (.iload_n 1, 1) := by decide +kernel
theorem dX2_approach_15 : decode cX2_approach 15 = .ok (.iload_n 3, 1) := by decide +kernel
theorem dX2_approach_16 : decode cX2_approach 16 = .ok (.invokestatic 77, 3) := by decide +kernel
theorem dX2_approach_19 : decode cX2_approach 19 = .ok (.invokestatic 46, 3) := by decide +kernel
theorem dX2_approach_22 : decode cX2_approach 22 = .ok (.istore 4, 2) := by decide +kernel
theorem dX2_approach_24 : decode cX2_approach 24 = .ok (.aload_n 0, 1) := by decide +kernel
theorem dX2_approach_25 : decode cX2_approach 25 = .ok (.getfield 9, 3) := by decide +kernel
theorem dX2_approach_28 : decode cX2_approach 28 = .ok (.iload_n 3, 1) := by decide +kernel
theorem dX2_approach_29 : decode cX2_approach 29 = .ok (.aload_n 0, 1) := by decide +kernel
theorem dX2_approach_30 : decode cX2_approach 30 = .ok (.getfield 9, 3) := by decide +kernel
theorem dX2_approach_33 : decode cX2_approach 33 = .ok (.iload_n 3, 1) := by decide +kernel
theorem dX2_approach_34 : decode cX2_approach 34 = .ok (.invokestatic 46, 3) := by decide +kernel
theorem dX2_approach_37 : decode cX2_approach 37 = .ok (.iload_n 2, 1) := by decide +kernel
theorem dX2_approach_38 : decode cX2_approach 38 = .ok (.iload 4, 2) := by decide +kernel
theorem dX2_approach_40 : decode cX2_approach 40 = .ok (.imul, 1) := by decide +kernel
theorem dX2_approach_41 : decode cX2_approach 41 = .ok (.isub, 1) := by decide +kernel
theorem dX2_approach_42 : decode cX2_approach 42 = .ok (.invokestatic 66, 3) := by decide +kernel
theorem dX2_approach_45 : decode cX2_approach 45 = .ok (.iinc 3 1, 3) := by decide +kernel
theorem dX2_approach_48 : decode cX2_approach 48 = .ok (.goto (-46), 3) := by decide +kernel
theorem dX2_approach_51 : decode cX2_approach 51 = .ok (.return_, 1) := by decide +kernel
theorem dX2_mostSteps_0 : decode cX2_mostSteps 0 = .ok (.bipush 9, 2) := by decide +kernel
theorem dX2_mostSteps_2 : decode cX2_mostSteps 2 = .ok (.istore_n 3, 1) := by decide +kernel
theorem dX2_mostSteps_3 : decode cX2_mostSteps 3 = .ok (.iconst 0, 1) := by decide +kernel
theorem dX2_mostSteps_4 : decode cX2_mostSteps 4 = .ok (.istore 4, 2) := by decide +kernel
theorem dX2_mostSteps_6 : decode cX2_mostSteps 6 = .ok (.iconst 0, 1) := by decide +kernel
theorem dX2_mostSteps_7 : decode cX2_mostSteps 7 = .ok (.istore 5, 2) := by decide +kernel
theorem dX2_mostSteps_9 : decode cX2_mostSteps 9 = .ok (.iload 5, 2) := by decide +kernel
theorem dX2_mostSteps_11 : decode cX2_mostSteps 11 = .ok (.aload_n 0, 1) := by decide +kernel
theorem dX2_mostSteps_12 : decode cX2_mostSteps 12 = .ok (.getfield 27, 3) := by decide +kernel
theorem dX2_mostSteps_15 : decode cX2_mostSteps 15 = .ok (.if_icmp .ge 89, 3) := by decide +kernel
theorem dX2_mostSteps_18 : decode cX2_mostSteps 18 = .ok (.aload_n 0, 1) := by decide +kernel
theorem dX2_mostSteps_19 : decode cX2_mostSteps 19 = .ok (.getfield 15, 3) := by decide +kernel
theorem dX2_mostSteps_22 : decode cX2_mostSteps 22 = .ok (.iload_n 1, 1) := by decide +kernel
theorem dX2_mostSteps_23 : decode cX2_mostSteps 23 = .ok (.iload 5, 2) := by decide +kernel
theorem dX2_mostSteps_25 : decode cX2_mostSteps 25 = .ok (.invokestatic 77, 3) := by decide +kernel
theorem dX2_mostSteps_28 : decode cX2_mostSteps 28 = .ok (.invokestatic 46, 3) := by decide +kernel
theorem dX2_mostSteps_31 : decode cX2_mostSteps 31 = .ok (.istore 6, 2) := by decide +kernel
theorem dX2_mostSteps_33 : decode cX2_mostSteps 33 = .ok (.aload_n 0, 1) := by decide +kernel
theorem dX2_mostSteps_34 : decode cX2_mostSteps 34 = .ok (.getfield 9, 3) := by decide +kernel
theorem dX2_mostSteps_37 : decode cX2_mostSteps 37 = .ok (.iload 5, 2) := by decide +kernel
theorem dX2_mostSteps_39 : decode cX2_mostSteps 39 = .ok (.invokestatic 46, 3) := by decide +kernel
theorem dX2_mostSteps_42 : decode cX2_mostSteps 42 = .ok (.istore 7, 2) := by decide +kernel
theorem dX2_mostSteps_44 : decode cX2_mostSteps 44 = .ok (.aload_n 0, 1) := by decide +kernel
theorem dX2_mostSteps_45 : decode cX2_mostSteps 45 = .ok (.getfield 18, 3) := by decide +kernel
theorem dX2_mostSteps_48 : decode cX2_mostSteps 48 = .ok (.iload_n 1, 1) := by decide +kernel
theorem dX2_mostSteps_49 : decode cX2_mostSteps 49 = .ok (.iload 5, 2) := by decide +kernel
theorem dX2_mostSteps_51 : decode cX2_mostSteps 51 = .ok (.invokestatic 77, 3) := by decide +kernel
theorem dX2_mostSteps_54 : decode cX2_mostSteps 54 = .ok (.invokestatic 46, 3) := by decide +kernel
theorem dX2_mostSteps_57 : decode cX2_mostSteps 57 = .ok (.istore 8, 2) := by decide +kernel
theorem dX2_mostSteps_59 : decode cX2_mostSteps 59 = .ok (.iload 6, 2) := by decide +kernel
theorem dX2_mostSteps_61 : decode cX2_mostSteps 61 = .ok (.ifCond .eq 24, 3) := by decide +kernel
theorem dX2_mostSteps_64 : decode cX2_mostSteps 64 = .ok (.iconst 1, 1) := by decide +kernel
theorem dX2_mostSteps_65 : decode cX2_mostSteps 65 = .ok (.istore 4, 2) := by decide +kernel
theorem dX2_mostSteps_67 : decode cX2_mostSteps 67 = .ok (.iload_n 3, 1) := by decide +kernel
theorem dX2_mostSteps_68 : decode cX2_mostSteps 68 = .ok (.iload_n 2, 1) := by decide +kernel
theorem dX2_mostSteps_69 : decode cX2_mostSteps 69 = .ok (.iload 6, 2) := by decide +kernel
theorem dX2_mostSteps_71 : decode cX2_mostSteps 71 = .ok (.imul, 1) := by decide +kernel
theorem dX2_mostSteps_72 : decode cX2_mostSteps 72 = .ok (.iload 7, 2) := by decide +kernel
theorem dX2_mostSteps_74 : decode cX2_mostSteps 74 = .ok (.imul, 1) := by decide +kernel
theorem dX2_mostSteps_75 : decode cX2_mostSteps 75 = .ok (.iload 8, 2) := by decide +kernel
theorem dX2_mostSteps_77 : decode cX2_mostSteps 77 = .ok (.iadd, 1) := by decide +kernel
theorem dX2_mostSteps_78 : decode cX2_mostSteps 78 = .ok (.invokestatic 109, 3) := by decide +kernel
theorem dX2_mostSteps_81 : decode cX2_mostSteps 81 = .ok (.istore_n 3, 1) := by decide +kernel
theorem dX2_mostSteps_82 : decode cX2_mostSteps 82 = .ok (.goto 16, 3) := by decide +kernel
theorem dX2_mostSteps_85 : decode cX2_mostSteps 85 = .ok (.iload 7, 2) := by decide +kernel
theorem dX2_mostSteps_87 : decode cX2_mostSteps 87 = .ok (.invokestatic 94, 3) := by decide +kernel
theorem dX2_mostSteps_90 : decode cX2_mostSteps 90 = .ok (.iload 8, 2) := by decide +kernel
theorem dX2_mostSteps_92 : decode cX2_mostSteps 92 = .ok (.if_icmp .le 6, 3) := by decide +kernel
theorem dX2_mostSteps_95 : decode cX2_mostSteps 95 = .ok (.bipush (-10), 2) := by decide +kernel
theorem dX2_mostSteps_97 : decode cX2_mostSteps 97 = .ok (.ireturn, 1) := by decide +kernel
theorem dX2_mostSteps_98 : decode cX2_mostSteps 98 = .ok (.iinc 5 1, 3) := by decide +kernel
theorem dX2_mostSteps_101 : decode cX2_mostSteps 101 = .ok (.goto (-92), 3) := by decide +kernel
theorem dX2_mostSteps_104 : decode cX2_mostSteps 104 = .ok (.iload 4, 2) := by decide +kernel
theorem dX2_mostSteps_106 : decode cX2_mostSteps 106 = .ok (.ifCond .eq 7, 3) := by decide +kernel
theorem dX2_mostSteps_109 : decode cX2_mostSteps 109 = .ok (.iload_n 3, 1) := by decide +kernel
theorem dX2_mostSteps_110 : decode cX2_mostSteps 110 = .ok (.goto 4, 3) := by decide +kernel
theorem dX2_mostSteps_113 : decode cX2_mostSteps 113 = .ok (.iconst 0, 1) := by decide +kernel
theorem dX2_mostSteps_114 : decode cX2_mostSteps 114 = .ok (.ireturn, 1) := by decide +kernel
theorem dX3_init_0 : decode cX3_init 0 = .ok (.aload_n 0, 1) := by decide +kernel
theorem dX3_init_1 : decode cX3_init 1 = .ok (.invokespecial 3, 3) := by decide +kernel
theorem dX3_init_4 : decode cX3_init 4 = .ok (.aload_n 0, 1) := by decide +kernel
theorem dX3_init_5 : decode cX3_init 5 = .ok (.iconst 0, 1) := by decide +kernel
theorem dX3_init_6 : decode cX3_init 6 = .ok (.putfield 9, 3) := by decide +kernel
theorem dX3_init_9 : decode cX3_init 9 = .ok (.aload_n 0, 1) := by decide +kernel
theorem dX3_init_10 : decode cX3_init 10 = .ok (.iconst 0, 1) := by decide +kernel
theorem dX3_init_11 : decode cX3_init 11 = .ok (.putfield 15, 3) := by decide +kernel
theorem dX3_init_14 : decode cX3_init 14 = .ok (.aload_n 0, 1) := by decide +kernel
theorem dX3_init_15 : decode cX3_init 15 = .ok (.iconst 0, 1) := by decide +kernel
theorem dX3_init_16 : decode cX3_init 16 = .ok (.putfield 18, 3) := by decide +kernel
theorem dX3_init_19 : decode cX3_init 19 = .ok (.aload_n 0, 1) := by decide +kernel
theorem dX3_init_20 : decode cX3_init 20 = .ok (.iconst 0, 1) := by decide +kernel
theorem dX3_init_21 : decode cX3_init 21 = .ok (.putfield 21, 3) := by decide +kernel
theorem dX3_init_24 : decode cX3_init 24 = .ok (.return_, 1) := by decide +kernel
theorem dX3_position_0 : decode cX3_position 0 = .ok (.aload_n 0, 1) := by decide +kernel
theorem dX3_position_1 : decode cX3_position 1 = .ok (.getfield 9, 3) := by decide +kernel
theorem dX3_position_4 : decode cX3_position 4 = .ok (.ireturn, 1) := by decide +kernel
theorem dX3_reason_0 : decode cX3_reason 0 = .ok (.aload_n 0, 1) := by decide +kernel
theorem dX3_reason_1 : decode cX3_reason 1 = .ok (.getfield 15, 3) := by decide +kernel
theorem dX3_reason_4 : decode cX3_reason 4 = .ok (.ireturn, 1) := by decide +kernel
theorem dX3_cause_0 : decode cX3_cause 0 = .ok (.aload_n 0, 1) := by decide +kernel
theorem dX3_cause_1 : decode cX3_cause 1 = .ok (.getfield 18, 3) := by decide +kernel
theorem dX3_cause_4 : decode cX3_cause 4 = .ok (.ireturn, 1) := by decide +kernel
theorem dX3_orders_0 : decode cX3_orders 0 = .ok (.aload_n 0, 1) := by decide +kernel
theorem dX3_orders_1 : decode cX3_orders 1 = .ok (.getfield 21, 3) := by decide +kernel
theorem dX3_orders_4 : decode cX3_orders 4 = .ok (.ireturn, 1) := by decide +kernel
theorem dX3_follow_0 : decode cX3_follow 0 = .ok (.aload_n 0, 1) := by decide +kernel
theorem dX3_follow_1 : decode cX3_follow 1 = .ok (.iconst 0, 1) := by decide +kernel
theorem dX3_follow_2 : decode cX3_follow 2 = .ok (.putfield 9, 3) := by decide +kernel
theorem dX3_follow_5 : decode cX3_follow 5 = .ok (.aload_n 0, 1) := by decide +kernel
theorem dX3_follow_6 : decode cX3_follow 6 = .ok (.iconst 0, 1) := by decide +kernel
theorem dX3_follow_7 : decode cX3_follow 7 = .ok (.putfield 15, 3) := by decide +kernel
theorem dX3_follow_10 : decode cX3_follow 10 = .ok (.aload_n 0, 1) := by decide +kernel
theorem dX3_follow_11 : decode cX3_follow 11 = .ok (.iconst 0, 1) := by decide +kernel
theorem dX3_follow_12 : decode cX3_follow 12 = .ok (.putfield 18, 3) := by decide +kernel
theorem dX3_follow_15 : decode cX3_follow 15 = .ok (.aload_n 0, 1) := by decide +kernel
theorem dX3_follow_16 : decode cX3_follow 16 = .ok (.iconst 0, 1) := by decide +kernel
theorem dX3_follow_17 : decode cX3_follow 17 = .ok (.putfield 21, 3) := by decide +kernel
theorem dX3_follow_20 : decode cX3_follow 20 = .ok (.iconst 0, 1) := by decide +kernel
theorem dX3_follow_21 : decode cX3_follow 21 = .ok (.istore_n 3, 1) := by decide +kernel
theorem dX3_follow_22 : decode cX3_follow 22 = .ok (.iload_n 3, 1) := by decide +kernel
theorem dX3_follow_23 : decode cX3_follow 23 = .ok (.bipush 60, 2) := by decide +kernel
theorem dX3_follow_25 : decode cX3_follow 25 = .ok (.if_icmp .ge 95, 3) := by decide +kernel
theorem dX3_follow_28 : decode cX3_follow 28 = .ok (.aload_n 0, 1) := by decide +kernel
theorem dX3_follow_29 : decode cX3_follow 29 = .ok (.getfield 9, 3) := by decide +kernel
theorem dX3_follow_32 : decode cX3_follow 32 = .ok (.aload_n 1, 1) := by decide +kernel
theorem dX3_follow_33 : decode cX3_follow 33 = .ok (.invokevirtual 24, 3) := by decide +kernel
theorem dX3_follow_36 : decode cX3_follow 36 = .ok (.if_icmp .ge 84, 3) := by decide +kernel
theorem dX3_follow_39 : decode cX3_follow 39 = .ok (.aload_n 1, 1) := by decide +kernel
theorem dX3_follow_40 : decode cX3_follow 40 = .ok (.aload_n 0, 1) := by decide +kernel
theorem dX3_follow_41 : decode cX3_follow 41 = .ok (.getfield 9, 3) := by decide +kernel
theorem dX3_follow_44 : decode cX3_follow 44 = .ok (.invokestatic 30, 3) := by decide +kernel
theorem dX3_follow_47 : decode cX3_follow 47 = .ok (.istore 4, 2) := by decide +kernel
theorem dX3_follow_49 : decode cX3_follow 49 = .ok (.aload_n 0, 1) := by decide +kernel
theorem dX3_follow_50 : decode cX3_follow 50 = .ok (.aload_n 0, 1) := by decide +kernel
theorem dX3_follow_51 : decode cX3_follow 51 = .ok (.aload_n 1, 1) := by decide +kernel
theorem dX3_follow_52 : decode cX3_follow 52 = .ok (.iload 4, 2) := by decide +kernel
theorem dX3_follow_54 : decode cX3_follow 54 = .ok (.invokevirtual 34, 3) := by decide +kernel
theorem dX3_follow_57 : decode cX3_follow 57 = .ok (.putfield 15, 3) := by decide +kernel
theorem dX3_follow_60 : decode cX3_follow 60 = .ok (.aload_n 0, 1) := by decide +kernel
theorem dX3_follow_61 : decode cX3_follow 61 = .ok (.getfield 15, 3) := by decide +kernel
theorem dX3_follow_64 : decode cX3_follow 64 = .ok (.ifCond .ne 18, 3) := by decide +kernel
theorem dX3_follow_67 : decode cX3_follow 67 = .ok (.aload_n 0, 1) := by decide +kernel
theorem dX3_follow_68 : decode cX3_follow 68 = .ok (.aload_n 0, 1) := by decide +kernel
theorem dX3_follow_69 : decode cX3_follow 69 = .ok (.aload_n 1, 1) := by decide +kernel
theorem dX3_follow_70 : decode cX3_follow 70 = .ok (.aload_n 2, 1) := by decide +kernel
theorem dX3_follow_71 : decode cX3_follow 71 = .ok (.iload 4, 2) := by decide +kernel
theorem dX3_follow_73 : decode cX3_follow 73 = .ok (.invokevirtual 37, 3) := by decide +kernel
theorem dX3_follow_76 : decode cX3_follow 76 = .ok (.invokestatic 41, 3) := by decide +kernel
theorem dX3_follow_79 : decode cX3_follow 79 = .ok (.putfield 15, 3) := by decide +kernel
theorem dX3_follow_82 : decode cX3_follow 82 = .ok (.aload_n 0, 1) := by decide +kernel
theorem dX3_follow_83 : decode cX3_follow 83 = .ok (.getfield 15, 3) := by decide +kernel
theorem dX3_follow_86 : decode cX3_follow 86 = .ok (.ifCond .eq 4, 3) := by decide +kernel
theorem dX3_follow_89 : decode cX3_follow 89 = .ok (.return_, 1) := by decide +kernel
theorem dX3_follow_90 : decode cX3_follow 90 = .ok (.aload_n 0, 1) := by decide +kernel
theorem dX3_follow_91 : decode cX3_follow 91 = .ok (.dup, 1) := by decide +kernel
theorem dX3_follow_92 : decode cX3_follow 92 = .ok (.getfield 9, 3) := by decide +kernel
theorem dX3_follow_95 : decode cX3_follow 95 = .ok (.iload 4, 2) := by decide +kernel
theorem dX3_follow_97 : decode cX3_follow 97 = .ok (.invokestatic 45, 3) := by decide +kernel
theorem dX3_follow_100 : decode cX3_follow 100 = .ok (.iadd, 1) := by decide +kernel
theorem dX3_follow_101 : decode cX3_follow 101 = .ok (.putfield 9, 3) := by decide +kernel
theorem dX3_follow_104 : decode cX3_follow 104 = .ok (.aload_n 0, 1) := by decide +kernel
theorem dX3_follow_105 : decode cX3_follow 105 = .ok (.dup, 1) := by decide +kernel
theorem dX3_follow_106 : decode cX3_follow 106 = .ok (.getfield 21, 3) := by decide +kernel
theorem dX3_follow_109 : decode cX3_follow 109 = .ok (.iconst 1, 1) := by decide +kernel
theorem dX3_follow_110 : decode cX3_follow 110 = .ok (.iadd, 1) := by decide +kernel
theorem dX3_follow_111 : decode cX3_follow 111 = .ok (.putfield 21, 3) := by decide +kernel
theorem dX3_follow_114 : decode cX3_follow 114 = .ok (.iinc 3 1, 3) := by decide +kernel
theorem dX3_follow_117 : decode cX3_follow 117 = .ok (.goto (-95), 3) := by decide +kernel
theorem dX3_follow_120 : decode cX3_follow 120 = .ok (.return_, 1) := by decide +kernel
theorem dX3_kindAt_0 : decode cX3_kindAt 0 = .ok (.iconst 0, 1) := by decide +kernel
theorem dX3_kindAt_1 : decode cX3_kindAt 1 = .ok (.istore_n 2, 1) := by decide +kernel
theorem dX3_kindAt_2 : decode cX3_kindAt 2 = .ok (.iload_n 2, 1) := by decide +kernel
theorem dX3_kindAt_3 : decode cX3_kindAt 3 = .ok (.iconst 5, 1) := by decide +kernel
theorem dX3_kindAt_4 : decode cX3_kindAt 4 = .ok (.if_icmp .ge 23, 3) := by decide +kernel
theorem dX3_kindAt_7 : decode cX3_kindAt 7 = .ok (.aload_n 0, 1) := by decide +kernel
theorem dX3_kindAt_8 : decode cX3_kindAt 8 = .ok (.iload_n 1, 1) := by decide +kernel
theorem dX3_kindAt_9 : decode cX3_kindAt 9 = .ok (.iload_n 2, 1) := by decide +kernel
theorem dX3_kindAt_10 : decode cX3_kindAt 10 = .ok (.invokestatic 48, 3) := by decide +kernel
theorem dX3_kindAt_13 : decode cX3_kindAt 13 = .ok (.invokevirtual 52, 3) := by decide +kernel
theorem dX3_kindAt_16 : decode cX3_kindAt 16 = .ok (.ifCond .eq 5, 3) := by decide +kernel
theorem dX3_kindAt_19 : decode cX3_kindAt 19 = .ok (.iload_n 2, 1) := by decide +kernel
theorem dX3_kindAt_20 : decode cX3_kindAt 20 = .ok (.ireturn, 1) := by decide +kernel
theorem dX3_kindAt_21 : decode cX3_kindAt 21 = .ok (.iinc 2 1, 3) := by decide +kernel
theorem dX3_kindAt_24 : decode cX3_kindAt 24 = .ok (.goto (-22), 3) := by decide +kernel
theorem dX3_kindAt_27 : decode cX3_kindAt 27 = .ok (.iconst 5, 1) := by decide +kernel
theorem dX3_kindAt_28 : decode cX3_kindAt 28 = .ok (.ireturn, 1) := by decide +kernel
theorem dX3_wordOf_0 : decode cX3_wordOf 0 = .ok (.iload_n 0, 1) := by decide +kernel
theorem dX3_wordOf_1 : decode cX3_wordOf 1 = .ok (.tableswitch 50 0 4 #[35, 38, 41, 44, 47], 35) := by decide +kernel
theorem dX3_wordOf_36 : decode cX3_wordOf 36 = .ok (.ldc 56, 2) := by decide +kernel
theorem dX3_wordOf_38 : decode cX3_wordOf 38 = .ok (.areturn, 1) := by decide +kernel
theorem dX3_wordOf_39 : decode cX3_wordOf 39 = .ok (.ldc 58, 2) := by decide +kernel
theorem dX3_wordOf_41 : decode cX3_wordOf 41 = .ok (.areturn, 1) := by decide +kernel
theorem dX3_wordOf_42 : decode cX3_wordOf 42 = .ok (.ldc 60, 2) := by decide +kernel
theorem dX3_wordOf_44 : decode cX3_wordOf 44 = .ok (.areturn, 1) := by decide +kernel
theorem dX3_wordOf_45 : decode cX3_wordOf 45 = .ok (.ldc 62, 2) := by decide +kernel
theorem dX3_wordOf_47 : decode cX3_wordOf 47 = .ok (.areturn, 1) := by decide +kernel
theorem dX3_wordOf_48 : decode cX3_wordOf 48 = .ok (.ldc 64, 2) := by decide +kernel
theorem dX3_wordOf_50 : decode cX3_wordOf 50 = .ok (.areturn, 1) := by decide +kernel
theorem dX3_wordOf_51 : decode cX3_wordOf 51 = .ok (.ldc 66, 2) := by decide +kernel
theorem dX3_wordOf_53 : decode cX3_wordOf 53 = .ok (.areturn, 1) := by decide +kernel
theorem dX3_numbersOf_0 : decode cX3_numbersOf 0 = .ok (.iload_n 0, 1) := by decide +kernel
theorem dX3_numbersOf_1 : decode cX3_numbersOf 1 = .ok (.iconst 2, 1) := by decide +kernel
theorem dX3_numbersOf_2 : decode cX3_numbersOf 2 = .ok (.if_icmp .eq 8, 3) := by decide +kernel
theorem dX3_numbersOf_5 : decode cX3_numbersOf 5 = .ok (.iload_n 0, 1) := by decide +kernel
theorem dX3_numbersOf_6 : decode cX3_numbersOf 6 = .ok (.iconst 4, 1) := by decide +kernel
theorem dX3_numbersOf_7 : decode cX3_numbersOf 7 = .ok (.if_icmp .ne 7, 3) := by decide +kernel
theorem dX3_numbersOf_10 : decode cX3_numbersOf 10 = .ok (.iconst 1, 1) := by decide +kernel
theorem dX3_numbersOf_11 : decode cX3_numbersOf 11 = .ok (.goto 4, 3) := by decide +kernel
theorem dX3_numbersOf_14 : decode cX3_numbersOf 14 = .ok (.iconst 2, 1) := by decide +kernel
theorem dX3_numbersOf_15 : decode cX3_numbersOf 15 = .ok (.ireturn, 1) := by decide +kernel
theorem dX3_orderLength_0 : decode cX3_orderLength 0 = .ok (.iload_n 0, 1) := by decide +kernel
theorem dX3_orderLength_1 : decode cX3_orderLength 1 = .ok (.invokestatic 48, 3) := by decide +kernel
theorem dX3_orderLength_4 : decode cX3_orderLength 4 = .ok (.invokevirtual 68, 3) := by decide +kernel
theorem dX3_orderLength_7 : decode cX3_orderLength 7 = .ok (.iconst 2, 1) := by decide +kernel
theorem dX3_orderLength_8 : decode cX3_orderLength 8 = .ok (.iload_n 0, 1) := by decide +kernel
theorem dX3_orderLength_9 : decode cX3_orderLength 9 = .ok (.invokestatic 71, 3) := by decide +kernel
theorem dX3_orderLength_12 : decode cX3_orderLength 12 = .ok (.imul, 1) := by decide +kernel
theorem dX3_orderLength_13 : decode cX3_orderLength 13 = .ok (.iadd, 1) := by decide +kernel
theorem dX3_orderLength_14 : decode cX3_orderLength 14 = .ok (.iconst 1, 1) := by decide +kernel
theorem dX3_orderLength_15 : decode cX3_orderLength 15 = .ok (.iadd, 1) := by decide +kernel
theorem dX3_orderLength_16 : decode cX3_orderLength 16 = .ok (.ireturn, 1) := by decide +kernel
theorem dX3_checkForm_0 : decode cX3_checkForm 0 = .ok (.iload_n 2, 1) := by decide +kernel
theorem dX3_checkForm_1 : decode cX3_checkForm 1 = .ok (.iconst 5, 1) := by decide +kernel
theorem dX3_checkForm_2 : decode cX3_checkForm 2 = .ok (.if_icmp .ne 7, 3) := by decide +kernel
theorem dX3_checkForm_5 : decode cX3_checkForm 5 = .ok (.iconst 0, 1) := by decide +kernel
theorem dX3_checkForm_6 : decode cX3_checkForm 6 = .ok (.goto 12, 3) := by decide +kernel
theorem dX3_checkForm_9 : decode cX3_checkForm 9 = .ok (.aload_n 1, 1) := by decide +kernel
theorem dX3_checkForm_10 : decode cX3_checkForm 10 = .ok (.aload_n 0, 1) := by decide +kernel
theorem dX3_checkForm_11 : decode cX3_checkForm 11 = .ok (.getfield 9, 3) := by decide +kernel
theorem dX3_checkForm_14 : decode cX3_checkForm 14 = .ok (.iload_n 2, 1) := by decide +kernel
theorem dX3_checkForm_15 : decode cX3_checkForm 15 = .ok (.invokestatic 74, 3) := by decide +kernel
theorem dX3_checkForm_18 : decode cX3_checkForm 18 = .ok (.istore_n 3, 1) := by decide +kernel
theorem dX3_checkForm_19 : decode cX3_checkForm 19 = .ok (.iload_n 3, 1) := by decide +kernel
theorem dX3_checkForm_20 : decode cX3_checkForm 20 = .ok (.iconst (-1), 1) := by decide +kernel
theorem dX3_checkForm_21 : decode cX3_checkForm 21 = .ok (.if_icmp .ne 5, 3) := by decide +kernel
theorem dX3_checkForm_24 : decode cX3_checkForm 24 = .ok (.iconst 0, 1) := by decide +kernel
theorem dX3_checkForm_25 : decode cX3_checkForm 25 = .ok (.ireturn, 1) := by decide +kernel
theorem dX3_checkForm_26 : decode cX3_checkForm 26 = .ok (.aload_n 0, 1) := by decide +kernel
theorem dX3_checkForm_27 : decode cX3_checkForm 27 = .ok (.iload_n 3, 1) := by decide +kernel
theorem dX3_checkForm_28 : decode cX3_checkForm 28 = .ok (.putfield 18, 3) := by decide +kernel
theorem dX3_checkForm_31 : decode cX3_checkForm 31 = .ok (.iconst 1, 1) := by decide +kernel
theorem dX3_checkForm_32 : decode cX3_checkForm 32 = .ok (.ireturn, 1) := by decide +kernel
theorem dX3_breakOf_0 : decode cX3_breakOf 0 = .ok (.iload_n 2, 1) := by decide +kernel
theorem dX3_breakOf_1 : decode cX3_breakOf 1 = .ok (.invokestatic 48, 3) := by decide +kernel
theorem dX3_breakOf_4 : decode cX3_breakOf 4 = .ok (.invokevirtual 68, 3) := by decide +kernel
theorem dX3_breakOf_7 : decode cX3_breakOf 7 = .ok (.istore_n 3, 1) := by decide +kernel
theorem dX3_breakOf_8 : decode cX3_breakOf 8 = .ok (.iconst 0, 1) := by decide +kernel
theorem dX3_breakOf_9 : decode cX3_breakOf 9 = .ok (.istore 4, 2) := by decide +kernel
theorem dX3_breakOf_11 : decode cX3_breakOf 11 = .ok (.iload 4, 2) := by decide +kernel
theorem dX3_breakOf_13 : decode cX3_breakOf 13 = .ok (.iload_n 2, 1) := by decide +kernel
theorem dX3_breakOf_14 : decode cX3_breakOf 14 = .ok (.invokestatic 71, 3) := by decide +kernel
theorem dX3_breakOf_17 : decode cX3_breakOf 17 = .ok (.if_icmp .ge 42, 3) := by decide +kernel
theorem dX3_breakOf_20 : decode cX3_breakOf 20 = .ok (.aload_n 0, 1) := by decide +kernel
theorem dX3_breakOf_21 : decode cX3_breakOf 21 = .ok (.iload_n 1, 1) := by decide +kernel
theorem dX3_breakOf_22 : decode cX3_breakOf 22 = .ok (.iload_n 3, 1) := by decide +kernel
theorem dX3_breakOf_23 : decode cX3_breakOf 23 = .ok (.iadd, 1) := by decide +kernel
theorem dX3_breakOf_24 : decode cX3_breakOf 24 = .ok (.invokevirtual 78, 3) := by decide +kernel
theorem dX3_breakOf_27 : decode cX3_breakOf 27 = .ok (.bipush 32, 2) := by decide +kernel
theorem dX3_breakOf_29 : decode cX3_breakOf 29 = .ok (.if_icmp .eq 5, 3) := by decide +kernel
theorem dX3_breakOf_32 : decode cX3_breakOf 32 = .ok (.iload_n 3, 1) := by decide +kernel
theorem dX3_breakOf_33 : decode cX3_breakOf 33 = .ok (.ireturn, 1) := by decide +kernel
theorem dX3_breakOf_34 : decode cX3_breakOf 34 = .ok (.aload_n 0, 1) := by decide +kernel
theorem dX3_breakOf_35 : decode cX3_breakOf 35 = .ok (.iload_n 1, 1) := by decide +kernel
theorem dX3_breakOf_36 : decode cX3_breakOf 36 = .ok (.iload_n 3, 1) := by decide +kernel
theorem dX3_breakOf_37 : decode cX3_breakOf 37 = .ok (.iadd, 1) := by decide +kernel
theorem dX3_breakOf_38 : decode cX3_breakOf 38 = .ok (.iconst 1, 1) := by decide +kernel
theorem dX3_breakOf_39 : decode cX3_breakOf 39 = .ok (.iadd, 1) := by decide +kernel
theorem dX3_breakOf_40 : decode cX3_breakOf 40 = .ok (.invokevirtual 82, 3) := by decide +kernel
theorem dX3_breakOf_43 : decode cX3_breakOf 43 = .ok (.ifCond .ne 7, 3) := by decide +kernel
theorem dX3_breakOf_46 : decode cX3_breakOf 46 = .ok (.iload_n 3, 1) := by decide +kernel
theorem dX3_breakOf_47 : decode cX3_breakOf 47 = .ok (.iconst 1, 1) := by decide +kernel
theorem dX3_breakOf_48 : decode cX3_breakOf 48 = .ok (.iadd, 1) := by decide +kernel
theorem dX3_breakOf_49 : decode cX3_breakOf 49 = .ok (.ireturn, 1) := by decide +kernel
theorem dX3_breakOf_50 : decode cX3_breakOf 50 = .ok (.iinc 3 2, 3) := by decide +kernel
theorem dX3_breakOf_53 : decode cX3_breakOf 53 = .ok (.iinc 4 1, 3) := by decide +kernel
theorem dX3_breakOf_56 : decode cX3_breakOf 56 = .ok (.goto (-45), 3) := by decide +kernel
theorem dX3_breakOf_59 : decode cX3_breakOf 59 = .ok (.aload_n 0, 1) := by decide +kernel
theorem dX3_breakOf_60 : decode cX3_breakOf 60 = .ok (.iload_n 1, 1) := by decide +kernel
theorem dX3_breakOf_61 : decode cX3_breakOf 61 = .ok (.iload_n 3, 1) := by decide +kernel
theorem dX3_breakOf_62 : decode cX3_breakOf 62 = .ok (.iadd, 1) := by decide +kernel
theorem dX3_breakOf_63 : decode cX3_breakOf 63 = .ok (.invokevirtual 78, 3) := by decide +kernel
theorem dX3_breakOf_66 : decode cX3_breakOf 66 = .ok (.bipush 59, 2) := by decide +kernel
theorem dX3_breakOf_68 : decode cX3_breakOf 68 = .ok (.if_icmp .ne 7, 3) := by decide +kernel
theorem dX3_breakOf_71 : decode cX3_breakOf 71 = .ok (.iconst (-1), 1) := by decide +kernel
theorem dX3_breakOf_72 : decode cX3_breakOf 72 = .ok (.goto 4, 3) := by decide +kernel
theorem dX3_breakOf_75 : decode cX3_breakOf 75 = .ok (.iload_n 3, 1) := by decide +kernel
theorem dX3_breakOf_76 : decode cX3_breakOf 76 = .ok (.ireturn, 1) := by decide +kernel
theorem dX3_doOrder_0 : decode cX3_doOrder 0 = .ok (.aload_n 0, 1) := by decide +kernel
theorem dX3_doOrder_1 : decode cX3_doOrder 1 = .ok (.getfield 9, 3) := by decide +kernel
theorem dX3_doOrder_4 : decode cX3_doOrder 4 = .ok (.iload_n 3, 1) := by decide +kernel
theorem dX3_doOrder_5 : decode cX3_doOrder 5 = .ok (.invokestatic 48, 3) := by decide +kernel
theorem dX3_doOrder_8 : decode cX3_doOrder 8 = .ok (.invokevirtual 68, 3) := by decide +kernel
theorem dX3_doOrder_11 : decode cX3_doOrder 11 = .ok (.iadd, 1) := by decide +kernel
theorem dX3_doOrder_12 : decode cX3_doOrder 12 = .ok (.istore 4, 2) := by decide +kernel
theorem dX3_doOrder_14 : decode cX3_doOrder 14 = .ok (.aload_n 1, 1) := by decide +kernel
theorem dX3_doOrder_15 : decode cX3_doOrder 15 = .ok (.iload 4, 2) := by decide +kernel
theorem dX3_doOrder_17 : decode cX3_doOrder 17 = .ok (.iconst 1, 1) := by decide +kernel
theorem dX3_doOrder_18 : decode cX3_doOrder 18 = .ok (.iadd, 1) := by decide +kernel
theorem dX3_doOrder_19 : decode cX3_doOrder 19 = .ok (.invokevirtual 86, 3) := by decide +kernel
theorem dX3_doOrder_22 : decode cX3_doOrder 22 = .ok (.istore 5, 2) := by decide +kernel
theorem dX3_doOrder_24 : decode cX3_doOrder 24 = .ok (.aload_n 1, 1) := by decide +kernel
theorem dX3_doOrder_25 : decode cX3_doOrder 25 = .ok (.iload 4, 2) := by decide +kernel
theorem dX3_doOrder_27 : decode cX3_doOrder 27 = .ok (.iconst 3, 1) := by decide +kernel
theorem dX3_doOrder_28 : decode cX3_doOrder 28 = .ok (.iadd, 1) := by decide +kernel
theorem dX3_doOrder_29 : decode cX3_doOrder 29 = .ok (.invokevirtual 86, 3) := by decide +kernel
theorem dX3_doOrder_32 : decode cX3_doOrder 32 = .ok (.istore 6, 2) := by decide +kernel
theorem dX3_doOrder_34 : decode cX3_doOrder 34 = .ok (.iload_n 3, 1) := by decide +kernel
theorem dX3_doOrder_35 : decode cX3_doOrder 35 = .ok (.tableswitch 75 0 4 #[33, 42, 52, 59, 68], 33) := by decide +kernel
theorem dX3_doOrder_68 : decode cX3_doOrder 68 = .ok (.aload_n 2, 1) := by decide +kernel
theorem dX3_doOrder_69 : decode cX3_doOrder 69 = .ok (.iload 5, 2) := by decide +kernel
theorem dX3_doOrder_71 : decode cX3_doOrder 71 = .ok (.iload 6, 2) := by decide +kernel
theorem dX3_doOrder_73 : decode cX3_doOrder 73 = .ok (.invokestatic 89, 3) := by decide +kernel
theorem dX3_doOrder_76 : decode cX3_doOrder 76 = .ok (.ireturn, 1) := by decide +kernel
theorem dX3_doOrder_77 : decode cX3_doOrder 77 = .ok (.aload_n 2, 1) := by decide +kernel
theorem dX3_doOrder_78 : decode cX3_doOrder 78 = .ok (.iload 5, 2) := by decide +kernel
theorem dX3_doOrder_80 : decode cX3_doOrder 80 = .ok (.iload 6, 2) := by decide +kernel
theorem dX3_doOrder_82 : decode cX3_doOrder 82 = .ok (.ineg, 1) := by decide +kernel
theorem dX3_doOrder_83 : decode cX3_doOrder 83 = .ok (.invokestatic 89, 3) := by decide +kernel
theorem dX3_doOrder_86 : decode cX3_doOrder 86 = .ok (.ireturn, 1) := by decide +kernel
theorem dX3_doOrder_87 : decode cX3_doOrder 87 = .ok (.aload_n 2, 1) := by decide +kernel
theorem dX3_doOrder_88 : decode cX3_doOrder 88 = .ok (.iload 5, 2) := by decide +kernel
theorem dX3_doOrder_90 : decode cX3_doOrder 90 = .ok (.invokestatic 95, 3) := by decide +kernel
theorem dX3_doOrder_93 : decode cX3_doOrder 93 = .ok (.ireturn, 1) := by decide +kernel
theorem dX3_doOrder_94 : decode cX3_doOrder 94 = .ok (.aload_n 2, 1) := by decide +kernel
theorem dX3_doOrder_95 : decode cX3_doOrder 95 = .ok (.iload 5, 2) := by decide +kernel
theorem dX3_doOrder_97 : decode cX3_doOrder 97 = .ok (.iload 6, 2) := by decide +kernel
theorem dX3_doOrder_99 : decode cX3_doOrder 99 = .ok (.invokestatic 99, 3) := by decide +kernel
theorem dX3_doOrder_102 : decode cX3_doOrder 102 = .ok (.ireturn, 1) := by decide +kernel
theorem dX3_doOrder_103 : decode cX3_doOrder 103 = .ok (.aload_n 2, 1) := by decide +kernel
theorem dX3_doOrder_104 : decode cX3_doOrder 104 = .ok (.iload 5, 2) := by decide +kernel
theorem dX3_doOrder_106 : decode cX3_doOrder 106 = .ok (.invokestatic 102, 3) := by decide +kernel
theorem dX3_doOrder_109 : decode cX3_doOrder 109 = .ok (.ireturn, 1) := by decide +kernel
theorem dX3_doOrder_110 : decode cX3_doOrder 110 = .ok (.ldc 105, 2) := by decide +kernel
theorem dX3_doOrder_112 : decode cX3_doOrder 112 = .ok (.ireturn, 1) := by decide +kernel
theorem dX3_reasonOf_0 : decode cX3_reasonOf 0 = .ok (.iload_n 0, 1) := by decide +kernel
theorem dX3_reasonOf_1 : decode cX3_reasonOf 1 = .ok (.ldc 105, 2) := by decide +kernel
theorem dX3_reasonOf_3 : decode cX3_reasonOf 3 = .ok (.if_icmp .ne 5, 3) := by decide +kernel
theorem dX3_reasonOf_6 : decode cX3_reasonOf 6 = .ok (.iconst 2, 1) := by decide +kernel
theorem dX3_reasonOf_7 : decode cX3_reasonOf 7 = .ok (.ireturn, 1) := by decide +kernel
theorem dX3_reasonOf_8 : decode cX3_reasonOf 8 = .ok (.iload_n 0, 1) := by decide +kernel
theorem dX3_reasonOf_9 : decode cX3_reasonOf 9 = .ok (.invokestatic 106, 3) := by decide +kernel
theorem dX3_reasonOf_12 : decode cX3_reasonOf 12 = .ok (.ifCond .eq 7, 3) := by decide +kernel
theorem dX3_reasonOf_15 : decode cX3_reasonOf 15 = .ok (.iconst 3, 1) := by decide +kernel
theorem dX3_reasonOf_16 : decode cX3_reasonOf 16 = .ok (.goto 4, 3) := by decide +kernel
theorem dX3_reasonOf_19 : decode cX3_reasonOf 19 = .ok (.iconst 0, 1) := by decide +kernel
theorem dX3_reasonOf_20 : decode cX3_reasonOf 20 = .ok (.ireturn, 1) := by decide +kernel
theorem dX4_light_0 : decode cX4_light 0 = .ok (.iload_n 0, 1) := by decide +kernel
theorem dX4_light_1 : decode cX4_light 1 = .ok (.iload_n 1, 1) := by decide +kernel
theorem dX4_light_2 : decode cX4_light 2 = .ok (.isub, 1) := by decide +kernel
theorem dX4_light_3 : decode cX4_light 3 = .ok (.invokestatic 9, 3) := by decide +kernel
theorem dX4_light_6 : decode cX4_light 6 = .ok (.istore_n 3, 1) := by decide +kernel
theorem dX4_light_7 : decode cX4_light 7 = .ok (.iload_n 3, 1) := by decide +kernel
theorem dX4_light_8 : decode cX4_light 8 = .ok (.bipush 24, 2) := by decide +kernel
theorem dX4_light_10 : decode cX4_light 10 = .ok (.iload_n 3, 1) := by decide +kernel
theorem dX4_light_11 : decode cX4_light 11 = .ok (.isub, 1) := by decide +kernel
theorem dX4_light_12 : decode cX4_light 12 = .ok (.invokestatic 15, 3) := by decide +kernel
theorem dX4_light_15 : decode cX4_light 15 = .ok (.istore 4, 2) := by decide +kernel
theorem dX4_light_17 : decode cX4_light 17 = .ok (.iconst 0, 1) := by decide +kernel
theorem dX4_light_18 : decode cX4_light 18 = .ok (.bipush 12, 2) := by decide +kernel
theorem dX4_light_20 : decode cX4_light 20 = .ok (.iconst 3, 1) := by decide +kernel
theorem dX4_light_21 : decode cX4_light 21 = .ok (.iload 4, 2) := by decide +kernel
theorem dX4_light_23 : decode cX4_light 23 = .ok (.imul, 1) := by decide +kernel
theorem dX4_light_24 : decode cX4_light 24 = .ok (.isub, 1) := by decide +kernel
theorem dX4_light_25 : decode cX4_light 25 = .ok (.invokestatic 19, 3) := by decide +kernel
theorem dX4_light_28 : decode cX4_light 28 = .ok (.istore 5, 2) := by decide +kernel
theorem dX4_light_30 : decode cX4_light 30 = .ok (.iload 5, 2) := by decide +kernel
theorem dX4_light_32 : decode cX4_light 32 = .ok (.bipush 9, 2) := by decide +kernel
theorem dX4_light_34 : decode cX4_light 34 = .ok (.iload_n 2, 1) := by decide +kernel
theorem dX4_light_35 : decode cX4_light 35 = .ok (.isub, 1) := by decide +kernel
theorem dX4_light_36 : decode cX4_light 36 = .ok (.imul, 1) := by decide +kernel
theorem dX4_light_37 : decode cX4_light 37 = .ok (.iconst 3, 1) := by decide +kernel
theorem dX4_light_38 : decode cX4_light 38 = .ok (.idiv, 1) := by decide +kernel
theorem dX4_light_39 : decode cX4_light 39 = .ok (.ireturn, 1) := by decide +kernel
theorem dX4_lightBehind_0 : decode cX4_lightBehind 0 = .ok (.aload_n 0, 1) := by decide +kernel
theorem dX4_lightBehind_1 : decode cX4_lightBehind 1 = .ok (.iload_n 1, 1) := by decide +kernel
theorem dX4_lightBehind_2 : decode cX4_lightBehind 2 = .ok (.iconst 1, 1) := by decide +kernel
theorem dX4_lightBehind_3 : decode cX4_lightBehind 3 = .ok (.invokevirtual 24, 3) := by decide +kernel
theorem dX4_lightBehind_6 : decode cX4_lightBehind 6 = .ok (.aload_n 0, 1) := by decide +kernel
theorem dX4_lightBehind_7 : decode cX4_lightBehind 7 = .ok (.iconst 2, 1) := by decide +kernel
theorem dX4_lightBehind_8 : decode cX4_lightBehind 8 = .ok (.invokevirtual 27, 3) := by decide +kernel
theorem dX4_lightBehind_11 : decode cX4_lightBehind 11 = .ok (.aload_n 0, 1) := by decide +kernel
theorem dX4_lightBehind_12 : decode cX4_lightBehind 12 = .ok (.iload_n 1, 1) := by decide +kernel
theorem dX4_lightBehind_13 : decode cX4_lightBehind 13 = .ok (.iconst 0, 1) := by decide +kernel
theorem dX4_lightBehind_14 : decode cX4_lightBehind 14 = .ok (.invokevirtual 24, 3) := by decide +kernel
theorem dX4_lightBehind_17 : decode cX4_lightBehind 17 = .ok (.invokestatic 30, 3) := by decide +kernel
theorem dX4_lightBehind_20 : decode cX4_lightBehind 20 = .ok (.ireturn, 1) := by decide +kernel
theorem dX4_isWell_0 : decode cX4_isWell 0 = .ok (.iload_n 2, 1) := by decide +kernel
theorem dX4_isWell_1 : decode cX4_isWell 1 = .ok (.aload_n 0, 1) := by decide +kernel
theorem dX4_isWell_2 : decode cX4_isWell 2 = .ok (.iload_n 1, 1) := by decide +kernel
theorem dX4_isWell_3 : decode cX4_isWell 3 = .ok (.iconst 2, 1) := by decide +kernel
theorem dX4_isWell_4 : decode cX4_isWell 4 = .ok (.invokevirtual 24, 3) := by decide +kernel
theorem dX4_isWell_7 : decode cX4_isWell 7 = .ok (.isub, 1) := by decide +kernel
theorem dX4_isWell_8 : decode cX4_isWell 8 = .ok (.invokestatic 9, 3) := by decide +kernel
theorem dX4_isWell_11 : decode cX4_isWell 11 = .ok (.aload_n 0, 1) := by decide +kernel
theorem dX4_isWell_12 : decode cX4_isWell 12 = .ok (.bipush 6, 2) := by decide +kernel
theorem dX4_isWell_14 : decode cX4_isWell 14 = .ok (.invokevirtual 27, 3) := by decide +kernel
theorem dX4_isWell_17 : decode cX4_isWell 17 = .ok (.if_icmp .gt 7, 3) := by decide +kernel
theorem dX4_isWell_20 : decode cX4_isWell 20 = .ok (.iconst 1, 1) := by decide +kernel
theorem dX4_isWell_21 : decode cX4_isWell 21 = .ok (.goto 4, 3) := by decide +kernel
theorem dX4_isWell_24 : decode cX4_isWell 24 = .ok (.iconst 0, 1) := by decide +kernel
theorem dX4_isWell_25 : decode cX4_isWell 25 = .ok (.ireturn, 1) := by decide +kernel
theorem dX4_hoursWellAt_0 : decode cX4_hoursWellAt 0 = .ok (.iconst 0, 1) := by decide +kernel
theorem dX4_hoursWellAt_1 : decode cX4_hoursWellAt 1 = .ok (.istore_n 3, 1) := by decide +kernel
theorem dX4_hoursWellAt_2 : decode cX4_hoursWellAt 2 = .ok (.iconst 0, 1) := by decide +kernel
theorem dX4_hoursWellAt_3 : decode cX4_hoursWellAt 3 = .ok (.istore 4, 2) := by decide +kernel
theorem dX4_hoursWellAt_5 : decode cX4_hoursWellAt 5 = .ok (.iload 4, 2) := by decide +kernel
theorem dX4_hoursWellAt_7 : decode cX4_hoursWellAt 7 = .ok (.bipush 24, 2) := by decide +kernel
theorem dX4_hoursWellAt_9 : decode cX4_hoursWellAt 9 = .ok (.if_icmp .ge 32, 3) := by decide +kernel
theorem dX4_hoursWellAt_12 : decode cX4_hoursWellAt 12 = .ok (.aload_n 0, 1) := by decide +kernel
theorem dX4_hoursWellAt_13 : decode cX4_hoursWellAt 13 = .ok (.iload_n 1, 1) := by decide +kernel
theorem dX4_hoursWellAt_14 : decode cX4_hoursWellAt 14 = .ok (.aload_n 0, 1) := by decide +kernel
theorem dX4_hoursWellAt_15 : decode cX4_hoursWellAt 15 = .ok (.iload_n 1, 1) := by decide +kernel
theorem dX4_hoursWellAt_16 : decode cX4_hoursWellAt 16 = .ok (.iconst 1, 1) := by decide +kernel
theorem dX4_hoursWellAt_17 : decode cX4_hoursWellAt 17 = .ok (.invokevirtual 24, 3) := by decide +kernel
theorem dX4_hoursWellAt_20 : decode cX4_hoursWellAt 20 = .ok (.iload 4, 2) := by decide +kernel
theorem dX4_hoursWellAt_22 : decode cX4_hoursWellAt 22 = .ok (.iload_n 2, 1) := by decide +kernel
theorem dX4_hoursWellAt_23 : decode cX4_hoursWellAt 23 = .ok (.invokestatic 30, 3) := by decide +kernel
theorem dX4_hoursWellAt_26 : decode cX4_hoursWellAt 26 = .ok (.invokestatic 36, 3) := by decide +kernel
theorem dX4_hoursWellAt_29 : decode cX4_hoursWellAt 29 = .ok (.ifCond .eq 6, 3) := by decide +kernel
theorem dX4_hoursWellAt_32 : decode cX4_hoursWellAt 32 = .ok (.iinc 3 1, 3) := by decide +kernel
theorem dX4_hoursWellAt_35 : decode cX4_hoursWellAt 35 = .ok (.iinc 4 1, 3) := by decide +kernel
theorem dX4_hoursWellAt_38 : decode cX4_hoursWellAt 38 = .ok (.goto (-33), 3) := by decide +kernel
theorem dX4_hoursWellAt_41 : decode cX4_hoursWellAt 41 = .ok (.iload_n 3, 1) := by decide +kernel
theorem dX4_hoursWellAt_42 : decode cX4_hoursWellAt 42 = .ok (.ireturn, 1) := by decide +kernel
theorem dX5_init_0 : decode cX5_init 0 = .ok (.aload_n 0, 1) := by decide +kernel
theorem dX5_init_1 : decode cX5_init 1 = .ok (.invokespecial 3, 3) := by decide +kernel
theorem dX5_init_4 : decode cX5_init 4 = .ok (.aload_n 0, 1) := by decide +kernel
theorem dX5_init_5 : decode cX5_init 5 = .ok (.bipush 60, 2) := by decide +kernel
theorem dX5_init_7 : decode cX5_init 7 = .ok (.newarray .char, 2) := by decide +kernel
theorem dX5_init_9 : decode cX5_init 9 = .ok (.putfield 9, 3) := by decide +kernel
theorem dX5_init_12 : decode cX5_init 12 = .ok (.aload_n 0, 1) := by decide +kernel
theorem dX5_init_13 : decode cX5_init 13 = .ok (.iconst 0, 1) := by decide +kernel
theorem dX5_init_14 : decode cX5_init 14 = .ok (.putfield 15, 3) := by decide +kernel
theorem dX5_init_17 : decode cX5_init 17 = .ok (.return_, 1) := by decide +kernel
theorem dX5_length_0 : decode cX5_length 0 = .ok (.aload_n 0, 1) := by decide +kernel
theorem dX5_length_1 : decode cX5_length 1 = .ok (.getfield 15, 3) := by decide +kernel
theorem dX5_length_4 : decode cX5_length 4 = .ok (.ireturn, 1) := by decide +kernel
theorem dX5_append_0 : decode cX5_append 0 = .ok (.aload_n 0, 1) := by decide +kernel
theorem dX5_append_1 : decode cX5_append 1 = .ok (.getfield 15, 3) := by decide +kernel
theorem dX5_append_4 : decode cX5_append 4 = .ok (.ifCond .lt 32, 3) := by decide +kernel
theorem dX5_append_7 : decode cX5_append 7 = .ok (.aload_n 0, 1) := by decide +kernel
theorem dX5_append_8 : decode cX5_append 8 = .ok (.getfield 15, 3) := by decide +kernel
theorem dX5_append_11 : decode cX5_append 11 = .ok (.bipush 60, 2) := by decide +kernel
theorem dX5_append_13 : decode cX5_append 13 = .ok (.if_icmp .ge 23, 3) := by decide +kernel
theorem dX5_append_16 : decode cX5_append 16 = .ok (.aload_n 0, 1) := by decide +kernel
theorem dX5_append_17 : decode cX5_append 17 = .ok (.getfield 9, 3) := by decide +kernel
theorem dX5_append_20 : decode cX5_append 20 = .ok (.aload_n 0, 1) := by decide +kernel
theorem dX5_append_21 : decode cX5_append 21 = .ok (.getfield 15, 3) := by decide +kernel
theorem dX5_append_24 : decode cX5_append 24 = .ok (.iload_n 1, 1) := by decide +kernel
theorem dX5_append_25 : decode cX5_append 25 = .ok (.castore, 1) := by decide +kernel
theorem dX5_append_26 : decode cX5_append 26 = .ok (.aload_n 0, 1) := by decide +kernel
theorem dX5_append_27 : decode cX5_append 27 = .ok (.dup, 1) := by decide +kernel
theorem dX5_append_28 : decode cX5_append 28 = .ok (.getfield 15, 3) := by decide +kernel
theorem dX5_append_31 : decode cX5_append 31 = .ok (.iconst 1, 1) := by decide +kernel
theorem dX5_append_32 : decode cX5_append 32 = .ok (.iadd, 1) := by decide +kernel
theorem dX5_append_33 : decode cX5_append 33 = .ok (.putfield 15, 3) := by decide +kernel
theorem dX5_append_36 : decode cX5_append 36 = .ok (.return_, 1) := by decide +kernel
theorem dX5_empty_0 : decode cX5_empty 0 = .ok (.aload_n 0, 1) := by decide +kernel
theorem dX5_empty_1 : decode cX5_empty 1 = .ok (.iconst 0, 1) := by decide +kernel
theorem dX5_empty_2 : decode cX5_empty 2 = .ok (.putfield 15, 3) := by decide +kernel
theorem dX5_empty_5 : decode cX5_empty 5 = .ok (.return_, 1) := by decide +kernel
theorem dX5_at_0 : decode cX5_at 0 = .ok (.iload_n 1, 1) := by decide +kernel
theorem dX5_at_1 : decode cX5_at 1 = .ok (.ifCond .lt 26, 3) := by decide +kernel
theorem dX5_at_4 : decode cX5_at 4 = .ok (.iload_n 1, 1) := by decide +kernel
theorem dX5_at_5 : decode cX5_at 5 = .ok (.aload_n 0, 1) := by decide +kernel
theorem dX5_at_6 : decode cX5_at 6 = .ok (.getfield 15, 3) := by decide +kernel
theorem dX5_at_9 : decode cX5_at 9 = .ok (.if_icmp .ge 18, 3) := by decide +kernel
theorem dX5_at_12 : decode cX5_at 12 = .ok (.iload_n 1, 1) := by decide +kernel
theorem dX5_at_13 : decode cX5_at 13 = .ok (.bipush 60, 2) := by decide +kernel
theorem dX5_at_15 : decode cX5_at 15 = .ok (.if_icmp .ge 12, 3) := by decide +kernel
theorem dX5_at_18 : decode cX5_at 18 = .ok (.aload_n 0, 1) := by decide +kernel
theorem dX5_at_19 : decode cX5_at 19 = .ok (.getfield 9, 3) := by decide +kernel
theorem dX5_at_22 : decode cX5_at 22 = .ok (.iload_n 1, 1) := by decide +kernel
theorem dX5_at_23 : decode cX5_at 23 = .ok (.caload, 1) := by decide +kernel
theorem dX5_at_24 : decode cX5_at 24 = .ok (.goto 4, 3) := by decide +kernel
theorem dX5_at_27 : decode cX5_at 27 = .ok (.iconst 0, 1) := by decide +kernel
theorem dX5_at_28 : decode cX5_at 28 = .ok (.ireturn, 1) := by decide +kernel
theorem dX5_isDigit_0 : decode cX5_isDigit 0 = .ok (.aload_n 0, 1) := by decide +kernel
theorem dX5_isDigit_1 : decode cX5_isDigit 1 = .ok (.iload_n 1, 1) := by decide +kernel
theorem dX5_isDigit_2 : decode cX5_isDigit 2 = .ok (.invokevirtual 19, 3) := by decide +kernel
theorem dX5_isDigit_5 : decode cX5_isDigit 5 = .ok (.bipush 48, 2) := by decide +kernel
theorem dX5_isDigit_7 : decode cX5_isDigit 7 = .ok (.if_icmp .lt 17, 3) := by decide +kernel
theorem dX5_isDigit_10 : decode cX5_isDigit 10 = .ok (.aload_n 0, 1) := by decide +kernel
theorem dX5_isDigit_11 : decode cX5_isDigit 11 = .ok (.iload_n 1, 1) := by decide +kernel
theorem dX5_isDigit_12 : decode cX5_isDigit 12 = .ok (.invokevirtual 19, 3) := by decide +kernel
theorem dX5_isDigit_15 : decode cX5_isDigit 15 = .ok (.bipush 57, 2) := by decide +kernel
theorem dX5_isDigit_17 : decode cX5_isDigit 17 = .ok (.if_icmp .gt 7, 3) := by decide +kernel
theorem dX5_isDigit_20 : decode cX5_isDigit 20 = .ok (.iconst 1, 1) := by decide +kernel
theorem dX5_isDigit_21 : decode cX5_isDigit 21 = .ok (.goto 4, 3) := by decide +kernel
theorem dX5_isDigit_24 : decode cX5_isDigit 24 = .ok (.iconst 0, 1) := by decide +kernel
theorem dX5_isDigit_25 : decode cX5_isDigit 25 = .ok (.ireturn, 1) := by decide +kernel
theorem dX5_digit_0 : decode cX5_digit 0 = .ok (.aload_n 0, 1) := by decide +kernel
theorem dX5_digit_1 : decode cX5_digit 1 = .ok (.iload_n 1, 1) := by decide +kernel
theorem dX5_digit_2 : decode cX5_digit 2 = .ok (.invokevirtual 23, 3) := by decide +kernel
theorem dX5_digit_5 : decode cX5_digit 5 = .ok (.ifCond .eq 14, 3) := by decide +kernel
theorem dX5_digit_8 : decode cX5_digit 8 = .ok (.aload_n 0, 1) := by decide +kernel
theorem dX5_digit_9 : decode cX5_digit 9 = .ok (.iload_n 1, 1) := by decide +kernel
theorem dX5_digit_10 : decode cX5_digit 10 = .ok (.invokevirtual 19, 3) := by decide +kernel
theorem dX5_digit_13 : decode cX5_digit 13 = .ok (.bipush 48, 2) := by decide +kernel
theorem dX5_digit_15 : decode cX5_digit 15 = .ok (.isub, 1) := by decide +kernel
theorem dX5_digit_16 : decode cX5_digit 16 = .ok (.goto 4, 3) := by decide +kernel
theorem dX5_digit_19 : decode cX5_digit 19 = .ok (.iconst 0, 1) := by decide +kernel
theorem dX5_digit_20 : decode cX5_digit 20 = .ok (.ireturn, 1) := by decide +kernel
theorem dX5_lettersFrom_0 : decode cX5_lettersFrom 0 = .ok (.iconst 0, 1) := by decide +kernel
theorem dX5_lettersFrom_1 : decode cX5_lettersFrom 1 = .ok (.istore_n 2, 1) := by decide +kernel
theorem dX5_lettersFrom_2 : decode cX5_lettersFrom 2 = .ok (.iload_n 2, 1) := by decide +kernel
theorem dX5_lettersFrom_3 : decode cX5_lettersFrom 3 = .ok (.bipush 60, 2) := by decide +kernel
theorem dX5_lettersFrom_5 : decode cX5_lettersFrom 5 = .ok (.if_icmp .ge 33, 3) := by decide +kernel
theorem dX5_lettersFrom_8 : decode cX5_lettersFrom 8 = .ok (.aload_n 0, 1) := by decide +kernel
theorem dX5_lettersFrom_9 : decode cX5_lettersFrom 9 = .ok (.iload_n 1, 1) := by decide +kernel
theorem dX5_lettersFrom_10 : decode cX5_lettersFrom 10 = .ok (.iload_n 2, 1) := by decide +kernel
theorem dX5_lettersFrom_11 : decode cX5_lettersFrom 11 = .ok (.iadd, 1) := by decide +kernel
theorem dX5_lettersFrom_12 : decode cX5_lettersFrom 12 = .ok (.invokevirtual 19, 3) := by decide +kernel
theorem dX5_lettersFrom_15 : decode cX5_lettersFrom 15 = .ok (.bipush 97, 2) := by decide +kernel
theorem dX5_lettersFrom_17 : decode cX5_lettersFrom 17 = .ok (.if_icmp .lt 21, 3) := by decide +kernel
theorem dX5_lettersFrom_20 : decode cX5_lettersFrom 20 = .ok (.aload_n 0, 1) := by decide +kernel
theorem dX5_lettersFrom_21 : decode cX5_lettersFrom 21 = .ok (.iload_n 1, 1) := by decide +kernel
theorem dX5_lettersFrom_22 : decode cX5_lettersFrom 22 = .ok (.iload_n 2, 1) := by decide +kernel
theorem dX5_lettersFrom_23 : decode cX5_lettersFrom 23 = .ok (.iadd, 1) := by decide +kernel
theorem dX5_lettersFrom_24 : decode cX5_lettersFrom 24 = .ok (.invokevirtual 19, 3) := by decide +kernel
theorem dX5_lettersFrom_27 : decode cX5_lettersFrom 27 = .ok (.bipush 122, 2) := by decide +kernel
theorem dX5_lettersFrom_29 : decode cX5_lettersFrom 29 = .ok (.if_icmp .gt 9, 3) := by decide +kernel
theorem dX5_lettersFrom_32 : decode cX5_lettersFrom 32 = .ok (.iinc 2 1, 3) := by decide +kernel
theorem dX5_lettersFrom_35 : decode cX5_lettersFrom 35 = .ok (.goto (-33), 3) := by decide +kernel
theorem dX5_lettersFrom_38 : decode cX5_lettersFrom 38 = .ok (.iload_n 2, 1) := by decide +kernel
theorem dX5_lettersFrom_39 : decode cX5_lettersFrom 39 = .ok (.ireturn, 1) := by decide +kernel
theorem dX5_hasWord_0 : decode cX5_hasWord 0 = .ok (.iconst 0, 1) := by decide +kernel
theorem dX5_hasWord_1 : decode cX5_hasWord 1 = .ok (.istore_n 3, 1) := by decide +kernel
theorem dX5_hasWord_2 : decode cX5_hasWord 2 = .ok (.iload_n 3, 1) := by decide +kernel
theorem dX5_hasWord_3 : decode cX5_hasWord 3 = .ok (.aload_n 2, 1) := by decide +kernel
theorem dX5_hasWord_4 : decode cX5_hasWord 4 = .ok (.invokevirtual 27, 3) := by decide +kernel
theorem dX5_hasWord_7 : decode cX5_hasWord 7 = .ok (.if_icmp .ge 26, 3) := by decide +kernel
theorem dX5_hasWord_10 : decode cX5_hasWord 10 = .ok (.aload_n 0, 1) := by decide +kernel
theorem dX5_hasWord_11 : decode cX5_hasWord 11 = .ok (.iload_n 1, 1) := by decide +kernel
theorem dX5_hasWord_12 : decode cX5_hasWord 12 = .ok (.iload_n 3, 1) := by decide +kernel
theorem dX5_hasWord_13 : decode cX5_hasWord 13 = .ok (.iadd, 1) := by decide +kernel
theorem dX5_hasWord_14 : decode cX5_hasWord 14 = .ok (.invokevirtual 19, 3) := by decide +kernel
theorem dX5_hasWord_17 : decode cX5_hasWord 17 = .ok (.aload_n 2, 1) := by decide +kernel
theorem dX5_hasWord_18 : decode cX5_hasWord 18 = .ok (.iload_n 3, 1) := by decide +kernel
theorem dX5_hasWord_19 : decode cX5_hasWord 19 = .ok (.invokevirtual 32, 3) := by decide +kernel
theorem dX5_hasWord_22 : decode cX5_hasWord 22 = .ok (.if_icmp .eq 5, 3) := by decide +kernel
theorem dX5_hasWord_25 : decode cX5_hasWord 25 = .ok (.iconst 0, 1) := by decide +kernel
theorem dX5_hasWord_26 : decode cX5_hasWord 26 = .ok (.ireturn, 1) := by decide +kernel
theorem dX5_hasWord_27 : decode cX5_hasWord 27 = .ok (.iinc 3 1, 3) := by decide +kernel
theorem dX5_hasWord_30 : decode cX5_hasWord 30 = .ok (.goto (-28), 3) := by decide +kernel
theorem dX5_hasWord_33 : decode cX5_hasWord 33 = .ok (.aload_n 0, 1) := by decide +kernel
theorem dX5_hasWord_34 : decode cX5_hasWord 34 = .ok (.iload_n 1, 1) := by decide +kernel
theorem dX5_hasWord_35 : decode cX5_hasWord 35 = .ok (.invokevirtual 35, 3) := by decide +kernel
theorem dX5_hasWord_38 : decode cX5_hasWord 38 = .ok (.aload_n 2, 1) := by decide +kernel
theorem dX5_hasWord_39 : decode cX5_hasWord 39 = .ok (.invokevirtual 27, 3) := by decide +kernel
theorem dX5_hasWord_42 : decode cX5_hasWord 42 = .ok (.if_icmp .ne 7, 3) := by decide +kernel
theorem dX5_hasWord_45 : decode cX5_hasWord 45 = .ok (.iconst 1, 1) := by decide +kernel
theorem dX5_hasWord_46 : decode cX5_hasWord 46 = .ok (.goto 4, 3) := by decide +kernel
theorem dX5_hasWord_49 : decode cX5_hasWord 49 = .ok (.iconst 0, 1) := by decide +kernel
theorem dX5_hasWord_50 : decode cX5_hasWord 50 = .ok (.ireturn, 1) := by decide +kernel
theorem dX6_addShade_0 : decode cX6_addShade 0 = .ok (.iload_n 1, 1) := by decide +kernel
theorem dX6_addShade_1 : decode cX6_addShade 1 = .ok (.ifCond .lt 19, 3) := by decide +kernel
theorem dX6_addShade_4 : decode cX6_addShade 4 = .ok (.iload_n 1, 1) := by decide +kernel
theorem dX6_addShade_5 : decode cX6_addShade 5 = .ok (.bipush 24, 2) := by decide +kernel
theorem dX6_addShade_7 : decode cX6_addShade 7 = .ok (.if_icmp .ge 13, 3) := by decide +kernel
theorem dX6_addShade_10 : decode cX6_addShade 10 = .ok (.iload_n 2, 1) := by decide +kernel
theorem dX6_addShade_11 : decode cX6_addShade 11 = .ok (.ifCond .lt 9, 3) := by decide +kernel
theorem dX6_addShade_14 : decode cX6_addShade 14 = .ok (.iload_n 2, 1) := by decide +kernel
theorem dX6_addShade_15 : decode cX6_addShade 15 = .ok (.bipush 36, 2) := by decide +kernel
theorem dX6_addShade_17 : decode cX6_addShade 17 = .ok (.if_icmp .le 6, 3) := by decide +kernel
theorem dX6_addShade_20 : decode cX6_addShade 20 = .ok (.ldc 9, 2) := by decide +kernel
theorem dX6_addShade_22 : decode cX6_addShade 22 = .ok (.ireturn, 1) := by decide +kernel
theorem dX6_addShade_23 : decode cX6_addShade 23 = .ok (.aload_n 0, 1) := by decide +kernel
theorem dX6_addShade_24 : decode cX6_addShade 24 = .ok (.invokevirtual 10, 3) := by decide +kernel
theorem dX6_addShade_27 : decode cX6_addShade 27 = .ok (.istore_n 3, 1) := by decide +kernel
theorem dX6_addShade_28 : decode cX6_addShade 28 = .ok (.iload_n 3, 1) := by decide +kernel
theorem dX6_addShade_29 : decode cX6_addShade 29 = .ok (.bipush 8, 2) := by decide +kernel
theorem dX6_addShade_31 : decode cX6_addShade 31 = .ok (.if_icmp .lt 6, 3) := by decide +kernel
theorem dX6_addShade_34 : decode cX6_addShade 34 = .ok (.ldc 16, 2) := by decide +kernel
theorem dX6_addShade_36 : decode cX6_addShade 36 = .ok (.ireturn, 1) := by decide +kernel
theorem dX6_addShade_37 : decode cX6_addShade 37 = .ok (.aload_n 0, 1) := by decide +kernel
theorem dX6_addShade_38 : decode cX6_addShade 38 = .ok (.iload_n 3, 1) := by decide +kernel
theorem dX6_addShade_39 : decode cX6_addShade 39 = .ok (.iconst 1, 1) := by decide +kernel
theorem dX6_addShade_40 : decode cX6_addShade 40 = .ok (.iload_n 1, 1) := by decide +kernel
theorem dX6_addShade_41 : decode cX6_addShade 41 = .ok (.invokevirtual 17, 3) := by decide +kernel
theorem dX6_addShade_44 : decode cX6_addShade 44 = .ok (.aload_n 0, 1) := by decide +kernel
theorem dX6_addShade_45 : decode cX6_addShade 45 = .ok (.iload_n 3, 1) := by decide +kernel
theorem dX6_addShade_46 : decode cX6_addShade 46 = .ok (.iconst 2, 1) := by decide +kernel
theorem dX6_addShade_47 : decode cX6_addShade 47 = .ok (.iload_n 2, 1) := by decide +kernel
theorem dX6_addShade_48 : decode cX6_addShade 48 = .ok (.invokevirtual 17, 3) := by decide +kernel
theorem dX6_addShade_51 : decode cX6_addShade 51 = .ok (.aload_n 0, 1) := by decide +kernel
theorem dX6_addShade_52 : decode cX6_addShade 52 = .ok (.iload_n 3, 1) := by decide +kernel
theorem dX6_addShade_53 : decode cX6_addShade 53 = .ok (.bipush 6, 2) := by decide +kernel
theorem dX6_addShade_55 : decode cX6_addShade 55 = .ok (.iconst (-1), 1) := by decide +kernel
theorem dX6_addShade_56 : decode cX6_addShade 56 = .ok (.invokevirtual 17, 3) := by decide +kernel
theorem dX6_addShade_59 : decode cX6_addShade 59 = .ok (.aload_n 0, 1) := by decide +kernel
theorem dX6_addShade_60 : decode cX6_addShade 60 = .ok (.iconst 0, 1) := by decide +kernel
theorem dX6_addShade_61 : decode cX6_addShade 61 = .ok (.iload_n 3, 1) := by decide +kernel
theorem dX6_addShade_62 : decode cX6_addShade 62 = .ok (.iconst 1, 1) := by decide +kernel
theorem dX6_addShade_63 : decode cX6_addShade 63 = .ok (.iadd, 1) := by decide +kernel
theorem dX6_addShade_64 : decode cX6_addShade 64 = .ok (.invokevirtual 21, 3) := by decide +kernel
theorem dX6_addShade_67 : decode cX6_addShade 67 = .ok (.iload_n 3, 1) := by decide +kernel
theorem dX6_addShade_68 : decode cX6_addShade 68 = .ok (.ireturn, 1) := by decide +kernel
theorem dX6_addString_0 : decode cX6_addString 0 = .ok (.iload_n 1, 1) := by decide +kernel
theorem dX6_addString_1 : decode cX6_addString 1 = .ok (.iload_n 2, 1) := by decide +kernel
theorem dX6_addString_2 : decode cX6_addString 2 = .ok (.ior, 1) := by decide +kernel
theorem dX6_addString_3 : decode cX6_addString 3 = .ok (.istore_n 3, 1) := by decide +kernel
theorem dX6_addString_4 : decode cX6_addString 4 = .ok (.aload_n 0, 1) := by decide +kernel
theorem dX6_addString_5 : decode cX6_addString 5 = .ok (.invokevirtual 10, 3) := by decide +kernel
theorem dX6_addString_8 : decode cX6_addString 8 = .ok (.invokestatic 25, 3) := by decide +kernel
theorem dX6_addString_11 : decode cX6_addString 11 = .ok (.iconst 1, 1) := by decide +kernel
theorem dX6_addString_12 : decode cX6_addString 12 = .ok (.isub, 1) := by decide +kernel
theorem dX6_addString_13 : decode cX6_addString 13 = .ok (.istore 4, 2) := by decide +kernel
theorem dX6_addString_15 : decode cX6_addString 15 = .ok (.iload_n 3, 1) := by decide +kernel
theorem dX6_addString_16 : decode cX6_addString 16 = .ok (.iload 4, 2) := by decide +kernel
theorem dX6_addString_18 : decode cX6_addString 18 = .ok (.iconst (-1), 1) := by decide +kernel
theorem dX6_addString_19 : decode cX6_addString 19 = .ok (.ixor, 1) := by decide +kernel
theorem dX6_addString_20 : decode cX6_addString 20 = .ok (.iand, 1) := by decide +kernel
theorem dX6_addString_21 : decode cX6_addString 21 = .ok (.ifCond .ne 13, 3) := by decide +kernel
theorem dX6_addString_24 : decode cX6_addString 24 = .ok (.iload_n 1, 1) := by decide +kernel
theorem dX6_addString_25 : decode cX6_addString 25 = .ok (.iload_n 2, 1) := by decide +kernel
theorem dX6_addString_26 : decode cX6_addString 26 = .ok (.iand, 1) := by decide +kernel
theorem dX6_addString_27 : decode cX6_addString 27 = .ok (.ifCond .ne 7, 3) := by decide +kernel
theorem dX6_addString_30 : decode cX6_addString 30 = .ok (.iload_n 3, 1) := by decide +kernel
theorem dX6_addString_31 : decode cX6_addString 31 = .ok (.ifCond .ne 6, 3) := by decide +kernel
theorem dX6_addString_34 : decode cX6_addString 34 = .ok (.ldc 9, 2) := by decide +kernel
theorem dX6_addString_36 : decode cX6_addString 36 = .ok (.ireturn, 1) := by decide +kernel
theorem dX6_addString_37 : decode cX6_addString 37 = .ok (.aload_n 0, 1) := by decide +kernel
theorem dX6_addString_38 : decode cX6_addString 38 = .ok (.invokevirtual 29, 3) := by decide +kernel
theorem dX6_addString_41 : decode cX6_addString 41 = .ok (.istore 5, 2) := by decide +kernel
theorem dX6_addString_43 : decode cX6_addString 43 = .ok (.iload 5, 2) := by decide +kernel
theorem dX6_addString_45 : decode cX6_addString 45 = .ok (.iconst 4, 1) := by decide +kernel
theorem dX6_addString_46 : decode cX6_addString 46 = .ok (.if_icmp .lt 6, 3) := by decide +kernel
theorem dX6_addString_49 : decode cX6_addString 49 = .ok (.ldc 16, 2) := by decide +kernel
theorem dX6_addString_51 : decode cX6_addString 51 = .ok (.ireturn, 1) := by decide +kernel
theorem dX6_addString_52 : decode cX6_addString 52 = .ok (.aload_n 0, 1) := by decide +kernel
theorem dX6_addString_53 : decode cX6_addString 53 = .ok (.iload 5, 2) := by decide +kernel
theorem dX6_addString_55 : decode cX6_addString 55 = .ok (.iconst 0, 1) := by decide +kernel
theorem dX6_addString_56 : decode cX6_addString 56 = .ok (.iload_n 1, 1) := by decide +kernel
theorem dX6_addString_57 : decode cX6_addString 57 = .ok (.invokevirtual 32, 3) := by decide +kernel
theorem dX6_addString_60 : decode cX6_addString 60 = .ok (.aload_n 0, 1) := by decide +kernel
theorem dX6_addString_61 : decode cX6_addString 61 = .ok (.iload 5, 2) := by decide +kernel
theorem dX6_addString_63 : decode cX6_addString 63 = .ok (.iconst 1, 1) := by decide +kernel
theorem dX6_addString_64 : decode cX6_addString 64 = .ok (.iload_n 2, 1) := by decide +kernel
theorem dX6_addString_65 : decode cX6_addString 65 = .ok (.invokevirtual 32, 3) := by decide +kernel
theorem dX6_addString_68 : decode cX6_addString 68 = .ok (.aload_n 0, 1) := by decide +kernel
theorem dX6_addString_69 : decode cX6_addString 69 = .ok (.iconst 1, 1) := by decide +kernel
theorem dX6_addString_70 : decode cX6_addString 70 = .ok (.iload 5, 2) := by decide +kernel
theorem dX6_addString_72 : decode cX6_addString 72 = .ok (.iconst 1, 1) := by decide +kernel
theorem dX6_addString_73 : decode cX6_addString 73 = .ok (.iadd, 1) := by decide +kernel
theorem dX6_addString_74 : decode cX6_addString 74 = .ok (.invokevirtual 21, 3) := by decide +kernel
theorem dX6_addString_77 : decode cX6_addString 77 = .ok (.iload 5, 2) := by decide +kernel
theorem dX6_addString_79 : decode cX6_addString 79 = .ok (.ireturn, 1) := by decide +kernel
theorem dX6_pullBy_0 : decode cX6_pullBy 0 = .ok (.aload_n 0, 1) := by decide +kernel
theorem dX6_pullBy_1 : decode cX6_pullBy 1 = .ok (.iload_n 1, 1) := by decide +kernel
theorem dX6_pullBy_2 : decode cX6_pullBy 2 = .ok (.invokevirtual 35, 3) := by decide +kernel
theorem dX6_pullBy_5 : decode cX6_pullBy 5 = .ok (.ifCond .eq 19, 3) := by decide +kernel
theorem dX6_pullBy_8 : decode cX6_pullBy 8 = .ok (.iload_n 2, 1) := by decide +kernel
theorem dX6_pullBy_9 : decode cX6_pullBy 9 = .ok (.ifCond .eq 15, 3) := by decide +kernel
theorem dX6_pullBy_12 : decode cX6_pullBy 12 = .ok (.iload_n 2, 1) := by decide +kernel
theorem dX6_pullBy_13 : decode cX6_pullBy 13 = .ok (.bipush (-9), 2) := by decide +kernel
theorem dX6_pullBy_15 : decode cX6_pullBy 15 = .ok (.if_icmp .lt 9, 3) := by decide +kernel
theorem dX6_pullBy_18 : decode cX6_pullBy 18 = .ok (.iload_n 2, 1) := by decide +kernel
theorem dX6_pullBy_19 : decode cX6_pullBy 19 = .ok (.bipush 9, 2) := by decide +kernel
theorem dX6_pullBy_21 : decode cX6_pullBy 21 = .ok (.if_icmp .le 6, 3) := by decide +kernel
theorem dX6_pullBy_24 : decode cX6_pullBy 24 = .ok (.ldc 9, 2) := by decide +kernel
theorem dX6_pullBy_26 : decode cX6_pullBy 26 = .ok (.ireturn, 1) := by decide +kernel
theorem dX6_pullBy_27 : decode cX6_pullBy 27 = .ok (.aload_n 0, 1) := by decide +kernel
theorem dX6_pullBy_28 : decode cX6_pullBy 28 = .ok (.iload_n 1, 1) := by decide +kernel
theorem dX6_pullBy_29 : decode cX6_pullBy 29 = .ok (.iload_n 2, 1) := by decide +kernel
theorem dX6_pullBy_30 : decode cX6_pullBy 30 = .ok (.ifCond .le 7, 3) := by decide +kernel
theorem dX6_pullBy_33 : decode cX6_pullBy 33 = .ok (.iconst 0, 1) := by decide +kernel
theorem dX6_pullBy_34 : decode cX6_pullBy 34 = .ok (.goto 4, 3) := by decide +kernel
theorem dX6_pullBy_37 : decode cX6_pullBy 37 = .ok (.iconst 1, 1) := by decide +kernel
theorem dX6_pullBy_38 : decode cX6_pullBy 38 = .ok (.invokevirtual 39, 3) := by decide +kernel
theorem dX6_pullBy_41 : decode cX6_pullBy 41 = .ok (.istore_n 3, 1) := by decide +kernel
theorem dX6_pullBy_42 : decode cX6_pullBy 42 = .ok (.aload_n 0, 1) := by decide +kernel
theorem dX6_pullBy_43 : decode cX6_pullBy 43 = .ok (.iload_n 1, 1) := by decide +kernel
theorem dX6_pullBy_44 : decode cX6_pullBy 44 = .ok (.iload_n 2, 1) := by decide +kernel
theorem dX6_pullBy_45 : decode cX6_pullBy 45 = .ok (.ifCond .le 7, 3) := by decide +kernel
theorem dX6_pullBy_48 : decode cX6_pullBy 48 = .ok (.iconst 1, 1) := by decide +kernel
theorem dX6_pullBy_49 : decode cX6_pullBy 49 = .ok (.goto 4, 3) := by decide +kernel
theorem dX6_pullBy_52 : decode cX6_pullBy 52 = .ok (.iconst 0, 1) := by decide +kernel
theorem dX6_pullBy_53 : decode cX6_pullBy 53 = .ok (.invokevirtual 39, 3) := by decide +kernel
theorem dX6_pullBy_56 : decode cX6_pullBy 56 = .ok (.istore 4, 2) := by decide +kernel
theorem dX6_pullBy_58 : decode cX6_pullBy 58 = .ok (.iconst 0, 1) := by decide +kernel
theorem dX6_pullBy_59 : decode cX6_pullBy 59 = .ok (.istore 5, 2) := by decide +kernel
theorem dX6_pullBy_61 : decode cX6_pullBy 61 = .ok (.iload_n 2, 1) := by decide +kernel
theorem dX6_pullBy_62 : decode cX6_pullBy 62 = .ok (.invokestatic 43, 3) := by decide +kernel
theorem dX6_pullBy_65 : decode cX6_pullBy 65 = .ok (.istore 6, 2) := by decide +kernel
theorem dX6_pullBy_67 : decode cX6_pullBy 67 = .ok (.iconst 0, 1) := by decide +kernel
theorem dX6_pullBy_68 : decode cX6_pullBy 68 = .ok (.istore 7, 2) := by decide +kernel
theorem dX6_pullBy_70 : decode cX6_pullBy 70 = .ok (.iload 7, 2) := by decide +kernel
theorem dX6_pullBy_72 : decode cX6_pullBy 72 = .ok (.iload 6, 2) := by decide +kernel
theorem dX6_pullBy_74 : decode cX6_pullBy 74 = .ok (.if_icmp .ge 21, 3) := by decide +kernel
theorem dX6_pullBy_77 : decode cX6_pullBy 77 = .ok (.iload 5, 2) := by decide +kernel
theorem dX6_pullBy_79 : decode cX6_pullBy 79 = .ok (.aload_n 0, 1) := by decide +kernel
theorem dX6_pullBy_80 : decode cX6_pullBy 80 = .ok (.iload_n 3, 1) := by decide +kernel
theorem dX6_pullBy_81 : decode cX6_pullBy 81 = .ok (.iload 4, 2) := by decide +kernel
theorem dX6_pullBy_83 : decode cX6_pullBy 83 = .ok (.invokestatic 48, 3) := by decide +kernel
theorem dX6_pullBy_86 : decode cX6_pullBy 86 = .ok (.iadd, 1) := by decide +kernel
theorem dX6_pullBy_87 : decode cX6_pullBy 87 = .ok (.istore 5, 2) := by decide +kernel
theorem dX6_pullBy_89 : decode cX6_pullBy 89 = .ok (.iinc 7 1, 3) := by decide +kernel
theorem dX6_pullBy_92 : decode cX6_pullBy 92 = .ok (.goto (-22), 3) := by decide +kernel
theorem dX6_pullBy_95 : decode cX6_pullBy 95 = .ok (.aload_n 0, 1) := by decide +kernel
theorem dX6_pullBy_96 : decode cX6_pullBy 96 = .ok (.iload_n 1, 1) := by decide +kernel
theorem dX6_pullBy_97 : decode cX6_pullBy 97 = .ok (.iconst 2, 1) := by decide +kernel
theorem dX6_pullBy_98 : decode cX6_pullBy 98 = .ok (.aload_n 0, 1) := by decide +kernel
theorem dX6_pullBy_99 : decode cX6_pullBy 99 = .ok (.iload_n 1, 1) := by decide +kernel
theorem dX6_pullBy_100 : decode cX6_pullBy 100 = .ok (.iconst 2, 1) := by decide +kernel
theorem dX6_pullBy_101 : decode cX6_pullBy 101 = .ok (.invokevirtual 39, 3) := by decide +kernel
theorem dX6_pullBy_104 : decode cX6_pullBy 104 = .ok (.iload_n 2, 1) := by decide +kernel
theorem dX6_pullBy_105 : decode cX6_pullBy 105 = .ok (.iadd, 1) := by decide +kernel
theorem dX6_pullBy_106 : decode cX6_pullBy 106 = .ok (.invokevirtual 32, 3) := by decide +kernel
theorem dX6_pullBy_109 : decode cX6_pullBy 109 = .ok (.aload_n 0, 1) := by decide +kernel
theorem dX6_pullBy_110 : decode cX6_pullBy 110 = .ok (.iload_n 1, 1) := by decide +kernel
theorem dX6_pullBy_111 : decode cX6_pullBy 111 = .ok (.iconst 3, 1) := by decide +kernel
theorem dX6_pullBy_112 : decode cX6_pullBy 112 = .ok (.aload_n 0, 1) := by decide +kernel
theorem dX6_pullBy_113 : decode cX6_pullBy 113 = .ok (.iload_n 1, 1) := by decide +kernel
theorem dX6_pullBy_114 : decode cX6_pullBy 114 = .ok (.iconst 3, 1) := by decide +kernel
theorem dX6_pullBy_115 : decode cX6_pullBy 115 = .ok (.invokevirtual 39, 3) := by decide +kernel
theorem dX6_pullBy_118 : decode cX6_pullBy 118 = .ok (.iload 5, 2) := by decide +kernel
theorem dX6_pullBy_120 : decode cX6_pullBy 120 = .ok (.iadd, 1) := by decide +kernel
theorem dX6_pullBy_121 : decode cX6_pullBy 121 = .ok (.invokevirtual 32, 3) := by decide +kernel
theorem dX6_pullBy_124 : decode cX6_pullBy 124 = .ok (.iconst 0, 1) := by decide +kernel
theorem dX6_pullBy_125 : decode cX6_pullBy 125 = .ok (.ireturn, 1) := by decide +kernel
theorem dX6_stepOf_0 : decode cX6_stepOf 0 = .ok (.iconst 0, 1) := by decide +kernel
theorem dX6_stepOf_1 : decode cX6_stepOf 1 = .ok (.istore_n 3, 1) := by decide +kernel
theorem dX6_stepOf_2 : decode cX6_stepOf 2 = .ok (.iconst 0, 1) := by decide +kernel
theorem dX6_stepOf_3 : decode cX6_stepOf 3 = .ok (.istore 4, 2) := by decide +kernel
theorem dX6_stepOf_5 : decode cX6_stepOf 5 = .ok (.iconst 0, 1) := by decide +kernel
theorem dX6_stepOf_6 : decode cX6_stepOf 6 = .ok (.istore 5, 2) := by decide +kernel
theorem dX6_stepOf_8 : decode cX6_stepOf 8 = .ok (.iconst 0, 1) := by decide +kernel
theorem dX6_stepOf_9 : decode cX6_stepOf 9 = .ok (.istore 6, 2) := by decide +kernel
theorem dX6_stepOf_11 : decode cX6_stepOf 11 = .ok (.iload 6, 2) := by decide +kernel
theorem dX6_stepOf_13 : decode cX6_stepOf 13 = .ok (.aload_n 0, 1) := by decide +kernel
theorem dX6_stepOf_14 : decode cX6_stepOf 14 = .ok (.invokevirtual 10, 3) := by decide +kernel
theorem dX6_stepOf_17 : decode cX6_stepOf 17 = .ok (.if_icmp .ge 121, 3) := by decide +kernel
theorem dX6_stepOf_20 : decode cX6_stepOf 20 = .ok (.aload_n 0, 1) := by decide +kernel
theorem dX6_stepOf_21 : decode cX6_stepOf 21 = .ok (.iload 6, 2) := by decide +kernel
theorem dX6_stepOf_23 : decode cX6_stepOf 23 = .ok (.invokevirtual 54, 3) := by decide +kernel
theorem dX6_stepOf_26 : decode cX6_stepOf 26 = .ok (.ifCond .eq 106, 3) := by decide +kernel
theorem dX6_stepOf_29 : decode cX6_stepOf 29 = .ok (.aload_n 0, 1) := by decide +kernel
theorem dX6_stepOf_30 : decode cX6_stepOf 30 = .ok (.iload 6, 2) := by decide +kernel
theorem dX6_stepOf_32 : decode cX6_stepOf 32 = .ok (.invokevirtual 57, 3) := by decide +kernel
theorem dX6_stepOf_35 : decode cX6_stepOf 35 = .ok (.istore 7, 2) := by decide +kernel
theorem dX6_stepOf_37 : decode cX6_stepOf 37 = .ok (.iload 7, 2) := by decide +kernel
theorem dX6_stepOf_39 : decode cX6_stepOf 39 = .ok (.iload_n 1, 1) := by decide +kernel
theorem dX6_stepOf_40 : decode cX6_stepOf 40 = .ok (.iand, 1) := by decide +kernel
theorem dX6_stepOf_41 : decode cX6_stepOf 41 = .ok (.ifCond .eq 7, 3) := by decide +kernel
theorem dX6_stepOf_44 : decode cX6_stepOf 44 = .ok (.iconst 1, 1) := by decide +kernel
theorem dX6_stepOf_45 : decode cX6_stepOf 45 = .ok (.goto 4, 3) := by decide +kernel
theorem dX6_stepOf_48 : decode cX6_stepOf 48 = .ok (.iconst 0, 1) := by decide +kernel
theorem dX6_stepOf_49 : decode cX6_stepOf 49 = .ok (.istore 8, 2) := by decide +kernel
theorem dX6_stepOf_51 : decode cX6_stepOf 51 = .ok (.iload 7, 2) := by decide +kernel
theorem dX6_stepOf_53 : decode cX6_stepOf 53 = .ok (.iload_n 2, 1) := by decide +kernel
theorem dX6_stepOf_54 : decode cX6_stepOf 54 = .ok (.iand, 1) := by decide +kernel
theorem dX6_stepOf_55 : decode cX6_stepOf 55 = .ok (.ifCond .eq 7, 3) := by decide +kernel
theorem dX6_stepOf_58 : decode cX6_stepOf 58 = .ok (.iconst 1, 1) := by decide +kernel
theorem dX6_stepOf_59 : decode cX6_stepOf 59 = .ok (.goto 4, 3) := by decide +kernel
theorem dX6_stepOf_62 : decode cX6_stepOf 62 = .ok (.iconst 0, 1) := by decide +kernel
theorem dX6_stepOf_63 : decode cX6_stepOf 63 = .ok (.istore 9, 2) := by decide +kernel
theorem dX6_stepOf_65 : decode cX6_stepOf 65 = .ok (.iload 8, 2) := by decide +kernel
theorem dX6_stepOf_67 : decode cX6_stepOf 67 = .ok (.ifCond .eq 20, 3) := by decide +kernel
theorem dX6_stepOf_70 : decode cX6_stepOf 70 = .ok (.iload 9, 2) := by decide +kernel
theorem dX6_stepOf_72 : decode cX6_stepOf 72 = .ok (.ifCond .eq 15, 3) := by decide +kernel
theorem dX6_stepOf_75 : decode cX6_stepOf 75 = .ok (.aload_n 0, 1) := by decide +kernel
theorem dX6_stepOf_76 : decode cX6_stepOf 76 = .ok (.iload 7, 2) := by decide +kernel
theorem dX6_stepOf_78 : decode cX6_stepOf 78 = .ok (.invokestatic 60, 3) := by decide +kernel
theorem dX6_stepOf_81 : decode cX6_stepOf 81 = .ok (.iinc 5 1, 3) := by decide +kernel
theorem dX6_stepOf_84 : decode cX6_stepOf 84 = .ok (.goto 48, 3) := by decide +kernel
theorem dX6_stepOf_87 : decode cX6_stepOf 87 = .ok (.iload 8, 2) := by decide +kernel
theorem dX6_stepOf_89 : decode cX6_stepOf 89 = .ok (.ifCond .eq 21, 3) := by decide +kernel
theorem dX6_stepOf_92 : decode cX6_stepOf 92 = .ok (.aload_n 0, 1) := by decide +kernel
theorem dX6_stepOf_93 : decode cX6_stepOf 93 = .ok (.iload 7, 2) := by decide +kernel
theorem dX6_stepOf_95 : decode cX6_stepOf 95 = .ok (.iconst 1, 1) := by decide +kernel
theorem dX6_stepOf_96 : decode cX6_stepOf 96 = .ok (.invokestatic 64, 3) := by decide +kernel
theorem dX6_stepOf_99 : decode cX6_stepOf 99 = .ok (.ifCond .eq 11, 3) := by decide +kernel
theorem dX6_stepOf_102 : decode cX6_stepOf 102 = .ok (.iload_n 3, 1) := by decide +kernel
theorem dX6_stepOf_103 : decode cX6_stepOf 103 = .ok (.iload 7, 2) := by decide +kernel
theorem dX6_stepOf_105 : decode cX6_stepOf 105 = .ok (.ior, 1) := by decide +kernel
theorem dX6_stepOf_106 : decode cX6_stepOf 106 = .ok (.istore_n 3, 1) := by decide +kernel
theorem dX6_stepOf_107 : decode cX6_stepOf 107 = .ok (.goto 25, 3) := by decide +kernel
theorem dX6_stepOf_110 : decode cX6_stepOf 110 = .ok (.iload 9, 2) := by decide +kernel
theorem dX6_stepOf_112 : decode cX6_stepOf 112 = .ok (.ifCond .eq 20, 3) := by decide +kernel
theorem dX6_stepOf_115 : decode cX6_stepOf 115 = .ok (.aload_n 0, 1) := by decide +kernel
theorem dX6_stepOf_116 : decode cX6_stepOf 116 = .ok (.iload 7, 2) := by decide +kernel
theorem dX6_stepOf_118 : decode cX6_stepOf 118 = .ok (.iconst (-1), 1) := by decide +kernel
theorem dX6_stepOf_119 : decode cX6_stepOf 119 = .ok (.invokestatic 64, 3) := by decide +kernel
theorem dX6_stepOf_122 : decode cX6_stepOf 122 = .ok (.ifCond .eq 10, 3) := by decide +kernel
theorem dX6_stepOf_125 : decode cX6_stepOf 125 = .ok (.iload 4, 2) := by decide +kernel
theorem dX6_stepOf_127 : decode cX6_stepOf 127 = .ok (.iload 7, 2) := by decide +kernel
theorem dX6_stepOf_129 : decode cX6_stepOf 129 = .ok (.ior, 1) := by decide +kernel
theorem dX6_stepOf_130 : decode cX6_stepOf 130 = .ok (.istore 4, 2) := by decide +kernel
theorem dX6_stepOf_132 : decode cX6_stepOf 132 = .ok (.iinc 6 1, 3) := by decide +kernel
theorem dX6_stepOf_135 : decode cX6_stepOf 135 = .ok (.goto (-124), 3) := by decide +kernel
theorem dX6_stepOf_138 : decode cX6_stepOf 138 = .ok (.aload_n 0, 1) := by decide +kernel
theorem dX6_stepOf_139 : decode cX6_stepOf 139 = .ok (.iload_n 3, 1) := by decide +kernel
theorem dX6_stepOf_140 : decode cX6_stepOf 140 = .ok (.iload 4, 2) := by decide +kernel
theorem dX6_stepOf_142 : decode cX6_stepOf 142 = .ok (.invokestatic 68, 3) := by decide +kernel
theorem dX6_stepOf_145 : decode cX6_stepOf 145 = .ok (.iload 5, 2) := by decide +kernel
theorem dX6_stepOf_147 : decode cX6_stepOf 147 = .ok (.ireturn, 1) := by decide +kernel
theorem dX6_deepen_0 : decode cX6_deepen 0 = .ok (.iconst 0, 1) := by decide +kernel
theorem dX6_deepen_1 : decode cX6_deepen 1 = .ok (.istore_n 2, 1) := by decide +kernel
theorem dX6_deepen_2 : decode cX6_deepen 2 = .ok (.iload_n 2, 1) := by decide +kernel
theorem dX6_deepen_3 : decode cX6_deepen 3 = .ok (.aload_n 0, 1) := by decide +kernel
theorem dX6_deepen_4 : decode cX6_deepen 4 = .ok (.invokevirtual 10, 3) := by decide +kernel
theorem dX6_deepen_7 : decode cX6_deepen 7 = .ok (.if_icmp .ge 42, 3) := by decide +kernel
theorem dX6_deepen_10 : decode cX6_deepen 10 = .ok (.aload_n 0, 1) := by decide +kernel
theorem dX6_deepen_11 : decode cX6_deepen 11 = .ok (.iload_n 2, 1) := by decide +kernel
theorem dX6_deepen_12 : decode cX6_deepen 12 = .ok (.iconst 3, 1) := by decide +kernel
theorem dX6_deepen_13 : decode cX6_deepen 13 = .ok (.invokevirtual 72, 3) := by decide +kernel
theorem dX6_deepen_16 : decode cX6_deepen 16 = .ok (.istore_n 3, 1) := by decide +kernel
theorem dX6_deepen_17 : decode cX6_deepen 17 = .ok (.iload_n 1, 1) := by decide +kernel
theorem dX6_deepen_18 : decode cX6_deepen 18 = .ok (.iload_n 2, 1) := by decide +kernel
theorem dX6_deepen_19 : decode cX6_deepen 19 = .ok (.invokestatic 25, 3) := by decide +kernel
theorem dX6_deepen_22 : decode cX6_deepen 22 = .ok (.iand, 1) := by decide +kernel
theorem dX6_deepen_23 : decode cX6_deepen 23 = .ok (.ifCond .eq 20, 3) := by decide +kernel
theorem dX6_deepen_26 : decode cX6_deepen 26 = .ok (.iload_n 3, 1) := by decide +kernel
theorem dX6_deepen_27 : decode cX6_deepen 27 = .ok (.ifCond .le 16, 3) := by decide +kernel
theorem dX6_deepen_30 : decode cX6_deepen 30 = .ok (.aload_n 0, 1) := by decide +kernel
theorem dX6_deepen_31 : decode cX6_deepen 31 = .ok (.iload_n 2, 1) := by decide +kernel
theorem dX6_deepen_32 : decode cX6_deepen 32 = .ok (.iconst 3, 1) := by decide +kernel
theorem dX6_deepen_33 : decode cX6_deepen 33 = .ok (.iload_n 3, 1) := by decide +kernel
theorem dX6_deepen_34 : decode cX6_deepen 34 = .ok (.iconst 1, 1) := by decide +kernel
theorem dX6_deepen_35 : decode cX6_deepen 35 = .ok (.iadd, 1) := by decide +kernel
theorem dX6_deepen_36 : decode cX6_deepen 36 = .ok (.iconst 3, 1) := by decide +kernel
theorem dX6_deepen_37 : decode cX6_deepen 37 = .ok (.invokestatic 75, 3) := by decide +kernel
theorem dX6_deepen_40 : decode cX6_deepen 40 = .ok (.invokevirtual 17, 3) := by decide +kernel
theorem dX6_deepen_43 : decode cX6_deepen 43 = .ok (.iinc 2 1, 3) := by decide +kernel
theorem dX6_deepen_46 : decode cX6_deepen 46 = .ok (.goto (-44), 3) := by decide +kernel
theorem dX6_deepen_49 : decode cX6_deepen 49 = .ok (.return_, 1) := by decide +kernel
theorem dX6_moveGroup_0 : decode cX6_moveGroup 0 = .ok (.iload_n 2, 1) := by decide +kernel
theorem dX6_moveGroup_1 : decode cX6_moveGroup 1 = .ok (.ifCond .le 8, 3) := by decide +kernel
theorem dX6_moveGroup_4 : decode cX6_moveGroup 4 = .ok (.bipush 9, 2) := by decide +kernel
theorem dX6_moveGroup_6 : decode cX6_moveGroup 6 = .ok (.goto 4, 3) := by decide +kernel
theorem dX6_moveGroup_9 : decode cX6_moveGroup 9 = .ok (.iconst 0, 1) := by decide +kernel
theorem dX6_moveGroup_10 : decode cX6_moveGroup 10 = .ok (.istore_n 3, 1) := by decide +kernel
theorem dX6_moveGroup_11 : decode cX6_moveGroup 11 = .ok (.iconst 0, 1) := by decide +kernel
theorem dX6_moveGroup_12 : decode cX6_moveGroup 12 = .ok (.istore 4, 2) := by decide +kernel
theorem dX6_moveGroup_14 : decode cX6_moveGroup 14 = .ok (.iload 4, 2) := by decide +kernel
theorem dX6_moveGroup_16 : decode cX6_moveGroup 16 = .ok (.aload_n 0, 1) := by decide +kernel
theorem dX6_moveGroup_17 : decode cX6_moveGroup 17 = .ok (.invokevirtual 10, 3) := by decide +kernel
theorem dX6_moveGroup_20 : decode cX6_moveGroup 20 = .ok (.if_icmp .ge 32, 3) := by decide +kernel
theorem dX6_moveGroup_23 : decode cX6_moveGroup 23 = .ok (.iload_n 1, 1) := by decide +kernel
theorem dX6_moveGroup_24 : decode cX6_moveGroup 24 = .ok (.iload 4, 2) := by decide +kernel
theorem dX6_moveGroup_26 : decode cX6_moveGroup 26 = .ok (.invokestatic 25, 3) := by decide +kernel
theorem dX6_moveGroup_29 : decode cX6_moveGroup 29 = .ok (.iand, 1) := by decide +kernel
theorem dX6_moveGroup_30 : decode cX6_moveGroup 30 = .ok (.ifCond .eq 16, 3) := by decide +kernel
theorem dX6_moveGroup_33 : decode cX6_moveGroup 33 = .ok (.aload_n 0, 1) := by decide +kernel
theorem dX6_moveGroup_34 : decode cX6_moveGroup 34 = .ok (.iload 4, 2) := by decide +kernel
theorem dX6_moveGroup_36 : decode cX6_moveGroup 36 = .ok (.iconst 0, 1) := by decide +kernel
theorem dX6_moveGroup_37 : decode cX6_moveGroup 37 = .ok (.invokevirtual 72, 3) := by decide +kernel
theorem dX6_moveGroup_40 : decode cX6_moveGroup 40 = .ok (.iload_n 3, 1) := by decide +kernel
theorem dX6_moveGroup_41 : decode cX6_moveGroup 41 = .ok (.if_icmp .ne 5, 3) := by decide +kernel
theorem dX6_moveGroup_44 : decode cX6_moveGroup 44 = .ok (.iconst 0, 1) := by decide +kernel
theorem dX6_moveGroup_45 : decode cX6_moveGroup 45 = .ok (.ireturn, 1) := by decide +kernel
theorem dX6_moveGroup_46 : decode cX6_moveGroup 46 = .ok (.iinc 4 1, 3) := by decide +kernel
theorem dX6_moveGroup_49 : decode cX6_moveGroup 49 = .ok (.goto (-35), 3) := by decide +kernel
theorem dX6_moveGroup_52 : decode cX6_moveGroup 52 = .ok (.iconst 0, 1) := by decide +kernel
theorem dX6_moveGroup_53 : decode cX6_moveGroup 53 = .ok (.istore 4, 2) := by decide +kernel
theorem dX6_moveGroup_55 : decode cX6_moveGroup 55 = .ok (.iload 4, 2) := by decide +kernel
theorem dX6_moveGroup_57 : decode cX6_moveGroup 57 = .ok (.aload_n 0, 1) := by decide +kernel
theorem dX6_moveGroup_58 : decode cX6_moveGroup 58 = .ok (.invokevirtual 10, 3) := by decide +kernel
theorem dX6_moveGroup_61 : decode cX6_moveGroup 61 = .ok (.if_icmp .ge 35, 3) := by decide +kernel
theorem dX6_moveGroup_64 : decode cX6_moveGroup 64 = .ok (.iload_n 1, 1) := by decide +kernel
theorem dX6_moveGroup_65 : decode cX6_moveGroup 65 = .ok (.iload 4, 2) := by decide +kernel
theorem dX6_moveGroup_67 : decode cX6_moveGroup 67 = .ok (.invokestatic 25, 3) := by decide +kernel
theorem dX6_moveGroup_70 : decode cX6_moveGroup 70 = .ok (.iand, 1) := by decide +kernel
theorem dX6_moveGroup_71 : decode cX6_moveGroup 71 = .ok (.ifCond .eq 19, 3) := by decide +kernel
theorem dX6_moveGroup_74 : decode cX6_moveGroup 74 = .ok (.aload_n 0, 1) := by decide +kernel
theorem dX6_moveGroup_75 : decode cX6_moveGroup 75 = .ok (.iload 4, 2) := by decide +kernel
theorem dX6_moveGroup_77 : decode cX6_moveGroup 77 = .ok (.iconst 0, 1) := by decide +kernel
theorem dX6_moveGroup_78 : decode cX6_moveGroup 78 = .ok (.aload_n 0, 1) := by decide +kernel
theorem dX6_moveGroup_79 : decode cX6_moveGroup 79 = .ok (.iload 4, 2) := by decide +kernel
theorem dX6_moveGroup_81 : decode cX6_moveGroup 81 = .ok (.iconst 0, 1) := by decide +kernel
theorem dX6_moveGroup_82 : decode cX6_moveGroup 82 = .ok (.invokevirtual 72, 3) := by decide +kernel
theorem dX6_moveGroup_85 : decode cX6_moveGroup 85 = .ok (.iload_n 2, 1) := by decide +kernel
theorem dX6_moveGroup_86 : decode cX6_moveGroup 86 = .ok (.iadd, 1) := by decide +kernel
theorem dX6_moveGroup_87 : decode cX6_moveGroup 87 = .ok (.invokevirtual 17, 3) := by decide +kernel
theorem dX6_moveGroup_90 : decode cX6_moveGroup 90 = .ok (.iinc 4 1, 3) := by decide +kernel
theorem dX6_moveGroup_93 : decode cX6_moveGroup 93 = .ok (.goto (-38), 3) := by decide +kernel
theorem dX6_moveGroup_96 : decode cX6_moveGroup 96 = .ok (.iconst 1, 1) := by decide +kernel
theorem dX6_moveGroup_97 : decode cX6_moveGroup 97 = .ok (.ireturn, 1) := by decide +kernel
theorem dX6_tie_0 : decode cX6_tie 0 = .ok (.iconst 0, 1) := by decide +kernel
theorem dX6_tie_1 : decode cX6_tie 1 = .ok (.istore_n 3, 1) := by decide +kernel
theorem dX6_tie_2 : decode cX6_tie 2 = .ok (.iload_n 3, 1) := by decide +kernel
theorem dX6_tie_3 : decode cX6_tie 3 = .ok (.aload_n 0, 1) := by decide +kernel
theorem dX6_tie_4 : decode cX6_tie 4 = .ok (.invokevirtual 10, 3) := by decide +kernel
theorem dX6_tie_7 : decode cX6_tie 7 = .ok (.iconst 1, 1) := by decide +kernel
theorem dX6_tie_8 : decode cX6_tie 8 = .ok (.isub, 1) := by decide +kernel
theorem dX6_tie_9 : decode cX6_tie 9 = .ok (.if_icmp .ge 102, 3) := by decide +kernel
theorem dX6_tie_12 : decode cX6_tie 12 = .ok (.iload_n 1, 1) := by decide +kernel
theorem dX6_tie_13 : decode cX6_tie 13 = .ok (.iload_n 3, 1) := by decide +kernel
theorem dX6_tie_14 : decode cX6_tie 14 = .ok (.invokestatic 25, 3) := by decide +kernel
theorem dX6_tie_17 : decode cX6_tie 17 = .ok (.iand, 1) := by decide +kernel
theorem dX6_tie_18 : decode cX6_tie 18 = .ok (.ifCond .eq 14, 3) := by decide +kernel
theorem dX6_tie_21 : decode cX6_tie 21 = .ok (.iload_n 2, 1) := by decide +kernel
theorem dX6_tie_22 : decode cX6_tie 22 = .ok (.iload_n 3, 1) := by decide +kernel
theorem dX6_tie_23 : decode cX6_tie 23 = .ok (.iconst 1, 1) := by decide +kernel
theorem dX6_tie_24 : decode cX6_tie 24 = .ok (.iadd, 1) := by decide +kernel
theorem dX6_tie_25 : decode cX6_tie 25 = .ok (.invokestatic 25, 3) := by decide +kernel
theorem dX6_tie_28 : decode cX6_tie 28 = .ok (.iand, 1) := by decide +kernel
theorem dX6_tie_29 : decode cX6_tie 29 = .ok (.ifCond .ne 23, 3) := by decide +kernel
theorem dX6_tie_32 : decode cX6_tie 32 = .ok (.iload_n 2, 1) := by decide +kernel
theorem dX6_tie_33 : decode cX6_tie 33 = .ok (.iload_n 3, 1) := by decide +kernel
theorem dX6_tie_34 : decode cX6_tie 34 = .ok (.invokestatic 25, 3) := by decide +kernel
theorem dX6_tie_37 : decode cX6_tie 37 = .ok (.iand, 1) := by decide +kernel
theorem dX6_tie_38 : decode cX6_tie 38 = .ok (.ifCond .eq 18, 3) := by decide +kernel
theorem dX6_tie_41 : decode cX6_tie 41 = .ok (.iload_n 1, 1) := by decide +kernel
theorem dX6_tie_42 : decode cX6_tie 42 = .ok (.iload_n 3, 1) := by decide +kernel
theorem dX6_tie_43 : decode cX6_tie 43 = .ok (.iconst 1, 1) := by decide +kernel
theorem dX6_tie_44 : decode cX6_tie 44 = .ok (.iadd, 1) := by decide +kernel
theorem dX6_tie_45 : decode cX6_tie 45 = .ok (.invokestatic 25, 3) := by decide +kernel
theorem dX6_tie_48 : decode cX6_tie 48 = .ok (.iand, 1) := by decide +kernel
theorem dX6_tie_49 : decode cX6_tie 49 = .ok (.ifCond .eq 7, 3) := by decide +kernel
theorem dX6_tie_52 : decode cX6_tie 52 = .ok (.iconst 1, 1) := by decide +kernel
theorem dX6_tie_53 : decode cX6_tie 53 = .ok (.goto 4, 3) := by decide +kernel
theorem dX6_tie_56 : decode cX6_tie 56 = .ok (.iconst 0, 1) := by decide +kernel
theorem dX6_tie_57 : decode cX6_tie 57 = .ok (.istore 4, 2) := by decide +kernel
theorem dX6_tie_59 : decode cX6_tie 59 = .ok (.iload 4, 2) := by decide +kernel
theorem dX6_tie_61 : decode cX6_tie 61 = .ok (.ifCond .eq 44, 3) := by decide +kernel
theorem dX6_tie_64 : decode cX6_tie 64 = .ok (.aload_n 0, 1) := by decide +kernel
theorem dX6_tie_65 : decode cX6_tie 65 = .ok (.iload_n 3, 1) := by decide +kernel
theorem dX6_tie_66 : decode cX6_tie 66 = .ok (.iconst 3, 1) := by decide +kernel
theorem dX6_tie_67 : decode cX6_tie 67 = .ok (.invokevirtual 72, 3) := by decide +kernel
theorem dX6_tie_70 : decode cX6_tie 70 = .ok (.ifCond .ne 35, 3) := by decide +kernel
theorem dX6_tie_73 : decode cX6_tie 73 = .ok (.aload_n 0, 1) := by decide +kernel
theorem dX6_tie_74 : decode cX6_tie 74 = .ok (.iload_n 3, 1) := by decide +kernel
theorem dX6_tie_75 : decode cX6_tie 75 = .ok (.invokestatic 78, 3) := by decide +kernel
theorem dX6_tie_78 : decode cX6_tie 78 = .ok (.aload_n 0, 1) := by decide +kernel
theorem dX6_tie_79 : decode cX6_tie 79 = .ok (.iconst 5, 1) := by decide +kernel
theorem dX6_tie_80 : decode cX6_tie 80 = .ok (.invokevirtual 82, 3) := by decide +kernel
theorem dX6_tie_83 : decode cX6_tie 83 = .ok (.if_icmp .lt 22, 3) := by decide +kernel
theorem dX6_tie_86 : decode cX6_tie 86 = .ok (.aload_n 0, 1) := by decide +kernel
theorem dX6_tie_87 : decode cX6_tie 87 = .ok (.iload_n 3, 1) := by decide +kernel
theorem dX6_tie_88 : decode cX6_tie 88 = .ok (.iconst 3, 1) := by decide +kernel
theorem dX6_tie_89 : decode cX6_tie 89 = .ok (.iconst 1, 1) := by decide +kernel
theorem dX6_tie_90 : decode cX6_tie 90 = .ok (.invokevirtual 17, 3) := by decide +kernel
theorem dX6_tie_93 : decode cX6_tie 93 = .ok (.aload_n 0, 1) := by decide +kernel
theorem dX6_tie_94 : decode cX6_tie 94 = .ok (.iconst 4, 1) := by decide +kernel
theorem dX6_tie_95 : decode cX6_tie 95 = .ok (.aload_n 0, 1) := by decide +kernel
theorem dX6_tie_96 : decode cX6_tie 96 = .ok (.iconst 4, 1) := by decide +kernel
theorem dX6_tie_97 : decode cX6_tie 97 = .ok (.invokevirtual 82, 3) := by decide +kernel
theorem dX6_tie_100 : decode cX6_tie 100 = .ok (.iconst 1, 1) := by decide +kernel
theorem dX6_tie_101 : decode cX6_tie 101 = .ok (.iadd, 1) := by decide +kernel
theorem dX6_tie_102 : decode cX6_tie 102 = .ok (.invokevirtual 21, 3) := by decide +kernel
theorem dX6_tie_105 : decode cX6_tie 105 = .ok (.iinc 3 1, 3) := by decide +kernel
theorem dX6_tie_108 : decode cX6_tie 108 = .ok (.goto (-106), 3) := by decide +kernel
theorem dX6_tie_111 : decode cX6_tie 111 = .ok (.return_, 1) := by decide +kernel
theorem dX6_difference_0 : decode cX6_difference 0 = .ok (.aload_n 0, 1) := by decide +kernel
theorem dX6_difference_1 : decode cX6_difference 1 = .ok (.iload_n 1, 1) := by decide +kernel
theorem dX6_difference_2 : decode cX6_difference 2 = .ok (.iconst 0, 1) := by decide +kernel
theorem dX6_difference_3 : decode cX6_difference 3 = .ok (.invokevirtual 72, 3) := by decide +kernel
theorem dX6_difference_6 : decode cX6_difference 6 = .ok (.aload_n 0, 1) := by decide +kernel
theorem dX6_difference_7 : decode cX6_difference 7 = .ok (.iload_n 1, 1) := by decide +kernel
theorem dX6_difference_8 : decode cX6_difference 8 = .ok (.iconst 1, 1) := by decide +kernel
theorem dX6_difference_9 : decode cX6_difference 9 = .ok (.iadd, 1) := by decide +kernel
theorem dX6_difference_10 : decode cX6_difference 10 = .ok (.iconst 0, 1) := by decide +kernel
theorem dX6_difference_11 : decode cX6_difference 11 = .ok (.invokevirtual 72, 3) := by decide +kernel
theorem dX6_difference_14 : decode cX6_difference 14 = .ok (.isub, 1) := by decide +kernel
theorem dX6_difference_15 : decode cX6_difference 15 = .ok (.invokestatic 43, 3) := by decide +kernel
theorem dX6_difference_18 : decode cX6_difference 18 = .ok (.ireturn, 1) := by decide +kernel
theorem dX6_untieOnce_0 : decode cX6_untieOnce 0 = .ok (.iload_n 1, 1) := by decide +kernel
theorem dX6_untieOnce_1 : decode cX6_untieOnce 1 = .ok (.ifCond .lt 13, 3) := by decide +kernel
theorem dX6_untieOnce_4 : decode cX6_untieOnce 4 = .ok (.iload_n 1, 1) := by decide +kernel
theorem dX6_untieOnce_5 : decode cX6_untieOnce 5 = .ok (.aload_n 0, 1) := by decide +kernel
theorem dX6_untieOnce_6 : decode cX6_untieOnce 6 = .ok (.invokevirtual 10, 3) := by decide +kernel
theorem dX6_untieOnce_9 : decode cX6_untieOnce 9 = .ok (.iconst 1, 1) := by decide +kernel
theorem dX6_untieOnce_10 : decode cX6_untieOnce 10 = .ok (.isub, 1) := by decide +kernel
theorem dX6_untieOnce_11 : decode cX6_untieOnce 11 = .ok (.if_icmp .lt 6, 3) := by decide +kernel
theorem dX6_untieOnce_14 : decode cX6_untieOnce 14 = .ok (.ldc 9, 2) := by decide +kernel
theorem dX6_untieOnce_16 : decode cX6_untieOnce 16 = .ok (.ireturn, 1) := by decide +kernel
theorem dX6_untieOnce_17 : decode cX6_untieOnce 17 = .ok (.aload_n 0, 1) := by decide +kernel
theorem dX6_untieOnce_18 : decode cX6_untieOnce 18 = .ok (.iload_n 1, 1) := by decide +kernel
theorem dX6_untieOnce_19 : decode cX6_untieOnce 19 = .ok (.iconst 3, 1) := by decide +kernel
theorem dX6_untieOnce_20 : decode cX6_untieOnce 20 = .ok (.invokevirtual 72, 3) := by decide +kernel
theorem dX6_untieOnce_23 : decode cX6_untieOnce 23 = .ok (.istore_n 2, 1) := by decide +kernel
theorem dX6_untieOnce_24 : decode cX6_untieOnce 24 = .ok (.iload_n 2, 1) := by decide +kernel
theorem dX6_untieOnce_25 : decode cX6_untieOnce 25 = .ok (.ifCond .eq 12, 3) := by decide +kernel
theorem dX6_untieOnce_28 : decode cX6_untieOnce 28 = .ok (.aload_n 0, 1) := by decide +kernel
theorem dX6_untieOnce_29 : decode cX6_untieOnce 29 = .ok (.iload_n 1, 1) := by decide +kernel
theorem dX6_untieOnce_30 : decode cX6_untieOnce 30 = .ok (.invokestatic 78, 3) := by decide +kernel
theorem dX6_untieOnce_33 : decode cX6_untieOnce 33 = .ok (.iconst 1, 1) := by decide +kernel
theorem dX6_untieOnce_34 : decode cX6_untieOnce 34 = .ok (.if_icmp .le 6, 3) := by decide +kernel
theorem dX6_untieOnce_37 : decode cX6_untieOnce 37 = .ok (.ldc 85, 2) := by decide +kernel
theorem dX6_untieOnce_39 : decode cX6_untieOnce 39 = .ok (.ireturn, 1) := by decide +kernel
theorem dX6_untieOnce_40 : decode cX6_untieOnce 40 = .ok (.aload_n 0, 1) := by decide +kernel
theorem dX6_untieOnce_41 : decode cX6_untieOnce 41 = .ok (.iload_n 1, 1) := by decide +kernel
theorem dX6_untieOnce_42 : decode cX6_untieOnce 42 = .ok (.iconst 3, 1) := by decide +kernel
theorem dX6_untieOnce_43 : decode cX6_untieOnce 43 = .ok (.iload_n 2, 1) := by decide +kernel
theorem dX6_untieOnce_44 : decode cX6_untieOnce 44 = .ok (.iconst 1, 1) := by decide +kernel
theorem dX6_untieOnce_45 : decode cX6_untieOnce 45 = .ok (.isub, 1) := by decide +kernel
theorem dX6_untieOnce_46 : decode cX6_untieOnce 46 = .ok (.invokevirtual 17, 3) := by decide +kernel
theorem dX6_untieOnce_49 : decode cX6_untieOnce 49 = .ok (.iload_n 2, 1) := by decide +kernel
theorem dX6_untieOnce_50 : decode cX6_untieOnce 50 = .ok (.iconst 1, 1) := by decide +kernel
theorem dX6_untieOnce_51 : decode cX6_untieOnce 51 = .ok (.isub, 1) := by decide +kernel
theorem dX6_untieOnce_52 : decode cX6_untieOnce 52 = .ok (.ireturn, 1) := by decide +kernel
theorem dX6_tellHeight_0 : decode cX6_tellHeight 0 = .ok (.aload_n 0, 1) := by decide +kernel
theorem dX6_tellHeight_1 : decode cX6_tellHeight 1 = .ok (.iload_n 1, 1) := by decide +kernel
theorem dX6_tellHeight_2 : decode cX6_tellHeight 2 = .ok (.invokevirtual 86, 3) := by decide +kernel
theorem dX6_tellHeight_5 : decode cX6_tellHeight 5 = .ok (.ifCond .eq 13, 3) := by decide +kernel
theorem dX6_tellHeight_8 : decode cX6_tellHeight 8 = .ok (.iload_n 2, 1) := by decide +kernel
theorem dX6_tellHeight_9 : decode cX6_tellHeight 9 = .ok (.ifCond .lt 9, 3) := by decide +kernel
theorem dX6_tellHeight_12 : decode cX6_tellHeight 12 = .ok (.iload_n 2, 1) := by decide +kernel
theorem dX6_tellHeight_13 : decode cX6_tellHeight 13 = .ok (.bipush 9, 2) := by decide +kernel
theorem dX6_tellHeight_15 : decode cX6_tellHeight 15 = .ok (.if_icmp .le 6, 3) := by decide +kernel
theorem dX6_tellHeight_18 : decode cX6_tellHeight 18 = .ok (.ldc 9, 2) := by decide +kernel
theorem dX6_tellHeight_20 : decode cX6_tellHeight 20 = .ok (.ireturn, 1) := by decide +kernel
theorem dX6_tellHeight_21 : decode cX6_tellHeight 21 = .ok (.aload_n 0, 1) := by decide +kernel
theorem dX6_tellHeight_22 : decode cX6_tellHeight 22 = .ok (.iload_n 1, 1) := by decide +kernel
theorem dX6_tellHeight_23 : decode cX6_tellHeight 23 = .ok (.bipush 6, 2) := by decide +kernel
theorem dX6_tellHeight_25 : decode cX6_tellHeight 25 = .ok (.iload_n 2, 1) := by decide +kernel
theorem dX6_tellHeight_26 : decode cX6_tellHeight 26 = .ok (.invokevirtual 17, 3) := by decide +kernel
theorem dX6_tellHeight_29 : decode cX6_tellHeight 29 = .ok (.aload_n 0, 1) := by decide +kernel
theorem dX6_tellHeight_30 : decode cX6_tellHeight 30 = .ok (.invokevirtual 89, 3) := by decide +kernel
theorem dX6_tellHeight_33 : decode cX6_tellHeight 33 = .ok (.ireturn, 1) := by decide +kernel
theorem dX6_forgetTold_0 : decode cX6_forgetTold 0 = .ok (.aload_n 0, 1) := by decide +kernel
theorem dX6_forgetTold_1 : decode cX6_forgetTold 1 = .ok (.invokevirtual 92, 3) := by decide +kernel
theorem dX6_forgetTold_4 : decode cX6_forgetTold 4 = .ok (.istore_n 1, 1) := by decide +kernel
theorem dX6_forgetTold_5 : decode cX6_forgetTold 5 = .ok (.iconst 0, 1) := by decide +kernel
theorem dX6_forgetTold_6 : decode cX6_forgetTold 6 = .ok (.istore_n 2, 1) := by decide +kernel
theorem dX6_forgetTold_7 : decode cX6_forgetTold 7 = .ok (.iload_n 2, 1) := by decide +kernel
theorem dX6_forgetTold_8 : decode cX6_forgetTold 8 = .ok (.aload_n 0, 1) := by decide +kernel
theorem dX6_forgetTold_9 : decode cX6_forgetTold 9 = .ok (.invokevirtual 10, 3) := by decide +kernel
theorem dX6_forgetTold_12 : decode cX6_forgetTold 12 = .ok (.if_icmp .ge 17, 3) := by decide +kernel
theorem dX6_forgetTold_15 : decode cX6_forgetTold 15 = .ok (.aload_n 0, 1) := by decide +kernel
theorem dX6_forgetTold_16 : decode cX6_forgetTold 16 = .ok (.iload_n 2, 1) := by decide +kernel
theorem dX6_forgetTold_17 : decode cX6_forgetTold 17 = .ok (.bipush 6, 2) := by decide +kernel
theorem dX6_forgetTold_19 : decode cX6_forgetTold 19 = .ok (.iconst (-1), 1) := by decide +kernel
theorem dX6_forgetTold_20 : decode cX6_forgetTold 20 = .ok (.invokevirtual 17, 3) := by decide +kernel
theorem dX6_forgetTold_23 : decode cX6_forgetTold 23 = .ok (.iinc 2 1, 3) := by decide +kernel
theorem dX6_forgetTold_26 : decode cX6_forgetTold 26 = .ok (.goto (-19), 3) := by decide +kernel
theorem dX6_forgetTold_29 : decode cX6_forgetTold 29 = .ok (.iload_n 1, 1) := by decide +kernel
theorem dX6_forgetTold_30 : decode cX6_forgetTold 30 = .ok (.ireturn, 1) := by decide +kernel
theorem dX6_letHoursGo_0 : decode cX6_letHoursGo 0 = .ok (.iload_n 1, 1) := by decide +kernel
theorem dX6_letHoursGo_1 : decode cX6_letHoursGo 1 = .ok (.iconst 1, 1) := by decide +kernel
theorem dX6_letHoursGo_2 : decode cX6_letHoursGo 2 = .ok (.if_icmp .lt 9, 3) := by decide +kernel
theorem dX6_letHoursGo_5 : decode cX6_letHoursGo 5 = .ok (.iload_n 1, 1) := by decide +kernel
theorem dX6_letHoursGo_6 : decode cX6_letHoursGo 6 = .ok (.bipush 24, 2) := by decide +kernel
theorem dX6_letHoursGo_8 : decode cX6_letHoursGo 8 = .ok (.if_icmp .le 6, 3) := by decide +kernel
theorem dX6_letHoursGo_11 : decode cX6_letHoursGo 11 = .ok (.ldc 9, 2) := by decide +kernel
theorem dX6_letHoursGo_13 : decode cX6_letHoursGo 13 = .ok (.ireturn, 1) := by decide +kernel
theorem dX6_letHoursGo_14 : decode cX6_letHoursGo 14 = .ok (.aload_n 0, 1) := by decide +kernel
theorem dX6_letHoursGo_15 : decode cX6_letHoursGo 15 = .ok (.iconst 3, 1) := by decide +kernel
theorem dX6_letHoursGo_16 : decode cX6_letHoursGo 16 = .ok (.invokevirtual 82, 3) := by decide +kernel
theorem dX6_letHoursGo_19 : decode cX6_letHoursGo 19 = .ok (.iload_n 1, 1) := by decide +kernel
theorem dX6_letHoursGo_20 : decode cX6_letHoursGo 20 = .ok (.iadd, 1) := by decide +kernel
theorem dX6_letHoursGo_21 : decode cX6_letHoursGo 21 = .ok (.sipush 20000, 3) := by decide +kernel
theorem dX6_letHoursGo_24 : decode cX6_letHoursGo 24 = .ok (.if_icmp .le 6, 3) := by decide +kernel
theorem dX6_letHoursGo_27 : decode cX6_letHoursGo 27 = .ok (.ldc 16, 2) := by decide +kernel
theorem dX6_letHoursGo_29 : decode cX6_letHoursGo 29 = .ok (.ireturn, 1) := by decide +kernel
theorem dX6_letHoursGo_30 : decode cX6_letHoursGo 30 = .ok (.iconst 0, 1) := by decide +kernel
theorem dX6_letHoursGo_31 : decode cX6_letHoursGo 31 = .ok (.istore_n 2, 1) := by decide +kernel
theorem dX6_letHoursGo_32 : decode cX6_letHoursGo 32 = .ok (.iconst 0, 1) := by decide +kernel
theorem dX6_letHoursGo_33 : decode cX6_letHoursGo 33 = .ok (.istore_n 3, 1) := by decide +kernel
theorem dX6_letHoursGo_34 : decode cX6_letHoursGo 34 = .ok (.iload_n 3, 1) := by decide +kernel
theorem dX6_letHoursGo_35 : decode cX6_letHoursGo 35 = .ok (.iload_n 1, 1) := by decide +kernel
theorem dX6_letHoursGo_36 : decode cX6_letHoursGo 36 = .ok (.if_icmp .ge 16, 3) := by decide +kernel
theorem dX6_letHoursGo_39 : decode cX6_letHoursGo 39 = .ok (.iload_n 2, 1) := by decide +kernel
theorem dX6_letHoursGo_40 : decode cX6_letHoursGo 40 = .ok (.aload_n 0, 1) := by decide +kernel
theorem dX6_letHoursGo_41 : decode cX6_letHoursGo 41 = .ok (.invokestatic 95, 3) := by decide +kernel
theorem dX6_letHoursGo_44 : decode cX6_letHoursGo 44 = .ok (.iadd, 1) := by decide +kernel
theorem dX6_letHoursGo_45 : decode cX6_letHoursGo 45 = .ok (.istore_n 2, 1) := by decide +kernel
theorem dX6_letHoursGo_46 : decode cX6_letHoursGo 46 = .ok (.iinc 3 1, 3) := by decide +kernel
theorem dX6_letHoursGo_49 : decode cX6_letHoursGo 49 = .ok (.goto (-15), 3) := by decide +kernel
theorem dX6_letHoursGo_52 : decode cX6_letHoursGo 52 = .ok (.iload_n 2, 1) := by decide +kernel
theorem dX6_letHoursGo_53 : decode cX6_letHoursGo 53 = .ok (.ireturn, 1) := by decide +kernel
theorem dX6_letHourGo_0 : decode cX6_letHourGo 0 = .ok (.iconst 0, 1) := by decide +kernel
theorem dX6_letHourGo_1 : decode cX6_letHourGo 1 = .ok (.istore_n 1, 1) := by decide +kernel
theorem dX6_letHourGo_2 : decode cX6_letHourGo 2 = .ok (.iconst 0, 1) := by decide +kernel
theorem dX6_letHourGo_3 : decode cX6_letHourGo 3 = .ok (.istore_n 2, 1) := by decide +kernel
theorem dX6_letHourGo_4 : decode cX6_letHourGo 4 = .ok (.iload_n 2, 1) := by decide +kernel
theorem dX6_letHourGo_5 : decode cX6_letHourGo 5 = .ok (.aload_n 0, 1) := by decide +kernel
theorem dX6_letHourGo_6 : decode cX6_letHourGo 6 = .ok (.invokevirtual 10, 3) := by decide +kernel
theorem dX6_letHourGo_9 : decode cX6_letHourGo 9 = .ok (.if_icmp .ge 55, 3) := by decide +kernel
theorem dX6_letHourGo_12 : decode cX6_letHourGo 12 = .ok (.aload_n 0, 1) := by decide +kernel
theorem dX6_letHourGo_13 : decode cX6_letHourGo 13 = .ok (.iload_n 2, 1) := by decide +kernel
theorem dX6_letHourGo_14 : decode cX6_letHourGo 14 = .ok (.invokestatic 99, 3) := by decide +kernel
theorem dX6_letHourGo_17 : decode cX6_letHourGo 17 = .ok (.istore_n 3, 1) := by decide +kernel
theorem dX6_letHourGo_18 : decode cX6_letHourGo 18 = .ok (.aload_n 0, 1) := by decide +kernel
theorem dX6_letHourGo_19 : decode cX6_letHourGo 19 = .ok (.iload_n 2, 1) := by decide +kernel
theorem dX6_letHourGo_20 : decode cX6_letHourGo 20 = .ok (.iconst 4, 1) := by decide +kernel
theorem dX6_letHourGo_21 : decode cX6_letHourGo 21 = .ok (.aload_n 0, 1) := by decide +kernel
theorem dX6_letHourGo_22 : decode cX6_letHourGo 22 = .ok (.iload_n 2, 1) := by decide +kernel
theorem dX6_letHourGo_23 : decode cX6_letHourGo 23 = .ok (.iconst 4, 1) := by decide +kernel
theorem dX6_letHourGo_24 : decode cX6_letHourGo 24 = .ok (.invokevirtual 72, 3) := by decide +kernel
theorem dX6_letHourGo_27 : decode cX6_letHourGo 27 = .ok (.iload_n 3, 1) := by decide +kernel
theorem dX6_letHourGo_28 : decode cX6_letHourGo 28 = .ok (.iadd, 1) := by decide +kernel
theorem dX6_letHourGo_29 : decode cX6_letHourGo 29 = .ok (.invokevirtual 17, 3) := by decide +kernel
theorem dX6_letHourGo_32 : decode cX6_letHourGo 32 = .ok (.aload_n 0, 1) := by decide +kernel
theorem dX6_letHourGo_33 : decode cX6_letHourGo 33 = .ok (.iload_n 2, 1) := by decide +kernel
theorem dX6_letHourGo_34 : decode cX6_letHourGo 34 = .ok (.iload_n 3, 1) := by decide +kernel
theorem dX6_letHourGo_35 : decode cX6_letHourGo 35 = .ok (.invokestatic 104, 3) := by decide +kernel
theorem dX6_letHourGo_38 : decode cX6_letHourGo 38 = .ok (.ifCond .eq 20, 3) := by decide +kernel
theorem dX6_letHourGo_41 : decode cX6_letHourGo 41 = .ok (.aload_n 0, 1) := by decide +kernel
theorem dX6_letHourGo_42 : decode cX6_letHourGo 42 = .ok (.iload_n 2, 1) := by decide +kernel
theorem dX6_letHourGo_43 : decode cX6_letHourGo 43 = .ok (.iconst 5, 1) := by decide +kernel
theorem dX6_letHourGo_44 : decode cX6_letHourGo 44 = .ok (.aload_n 0, 1) := by decide +kernel
theorem dX6_letHourGo_45 : decode cX6_letHourGo 45 = .ok (.iload_n 2, 1) := by decide +kernel
theorem dX6_letHourGo_46 : decode cX6_letHourGo 46 = .ok (.iconst 5, 1) := by decide +kernel
theorem dX6_letHourGo_47 : decode cX6_letHourGo 47 = .ok (.invokevirtual 72, 3) := by decide +kernel
theorem dX6_letHourGo_50 : decode cX6_letHourGo 50 = .ok (.iconst 1, 1) := by decide +kernel
theorem dX6_letHourGo_51 : decode cX6_letHourGo 51 = .ok (.iadd, 1) := by decide +kernel
theorem dX6_letHourGo_52 : decode cX6_letHourGo 52 = .ok (.invokevirtual 17, 3) := by decide +kernel
theorem dX6_letHourGo_55 : decode cX6_letHourGo 55 = .ok (.iinc 1 1, 3) := by decide +kernel
theorem dX6_letHourGo_58 : decode cX6_letHourGo 58 = .ok (.iinc 2 1, 3) := by decide +kernel
theorem dX6_letHourGo_61 : decode cX6_letHourGo 61 = .ok (.goto (-57), 3) := by decide +kernel
theorem dX6_letHourGo_64 : decode cX6_letHourGo 64 = .ok (.aload_n 0, 1) := by decide +kernel
theorem dX6_letHourGo_65 : decode cX6_letHourGo 65 = .ok (.iconst 2, 1) := by decide +kernel
theorem dX6_letHourGo_66 : decode cX6_letHourGo 66 = .ok (.invokevirtual 82, 3) := by decide +kernel
theorem dX6_letHourGo_69 : decode cX6_letHourGo 69 = .ok (.iconst 1, 1) := by decide +kernel
theorem dX6_letHourGo_70 : decode cX6_letHourGo 70 = .ok (.iadd, 1) := by decide +kernel
theorem dX6_letHourGo_71 : decode cX6_letHourGo 71 = .ok (.istore_n 2, 1) := by decide +kernel
theorem dX6_letHourGo_72 : decode cX6_letHourGo 72 = .ok (.aload_n 0, 1) := by decide +kernel
theorem dX6_letHourGo_73 : decode cX6_letHourGo 73 = .ok (.iconst 2, 1) := by decide +kernel
theorem dX6_letHourGo_74 : decode cX6_letHourGo 74 = .ok (.iload_n 2, 1) := by decide +kernel
theorem dX6_letHourGo_75 : decode cX6_letHourGo 75 = .ok (.bipush 24, 2) := by decide +kernel
theorem dX6_letHourGo_77 : decode cX6_letHourGo 77 = .ok (.if_icmp .ge 7, 3) := by decide +kernel
theorem dX6_letHourGo_80 : decode cX6_letHourGo 80 = .ok (.iload_n 2, 1) := by decide +kernel
theorem dX6_letHourGo_81 : decode cX6_letHourGo 81 = .ok (.goto 4, 3) := by decide +kernel
theorem dX6_letHourGo_84 : decode cX6_letHourGo 84 = .ok (.iconst 0, 1) := by decide +kernel
theorem dX6_letHourGo_85 : decode cX6_letHourGo 85 = .ok (.invokevirtual 21, 3) := by decide +kernel
theorem dX6_letHourGo_88 : decode cX6_letHourGo 88 = .ok (.aload_n 0, 1) := by decide +kernel
theorem dX6_letHourGo_89 : decode cX6_letHourGo 89 = .ok (.iconst 3, 1) := by decide +kernel
theorem dX6_letHourGo_90 : decode cX6_letHourGo 90 = .ok (.aload_n 0, 1) := by decide +kernel
theorem dX6_letHourGo_91 : decode cX6_letHourGo 91 = .ok (.iconst 3, 1) := by decide +kernel
theorem dX6_letHourGo_92 : decode cX6_letHourGo 92 = .ok (.invokevirtual 82, 3) := by decide +kernel
theorem dX6_letHourGo_95 : decode cX6_letHourGo 95 = .ok (.iconst 1, 1) := by decide +kernel
theorem dX6_letHourGo_96 : decode cX6_letHourGo 96 = .ok (.iadd, 1) := by decide +kernel
theorem dX6_letHourGo_97 : decode cX6_letHourGo 97 = .ok (.invokevirtual 21, 3) := by decide +kernel
theorem dX6_letHourGo_100 : decode cX6_letHourGo 100 = .ok (.iload_n 1, 1) := by decide +kernel
theorem dX6_letHourGo_101 : decode cX6_letHourGo 101 = .ok (.ireturn, 1) := by decide +kernel
theorem dX6_changeSetting_0 : decode cX6_changeSetting 0 = .ok (.iload_n 1, 1) := by decide +kernel
theorem dX6_changeSetting_1 : decode cX6_changeSetting 1 = .ok (.lookupswitch 48 #[(0, 27), (1, 37)], 27) := by decide +kernel
theorem dX6_changeSetting_28 : decode cX6_changeSetting 28 = .ok (.aload_n 0, 1) := by decide +kernel
theorem dX6_changeSetting_29 : decode cX6_changeSetting 29 = .ok (.iconst 5, 1) := by decide +kernel
theorem dX6_changeSetting_30 : decode cX6_changeSetting 30 = .ok (.iload_n 2, 1) := by decide +kernel
theorem dX6_changeSetting_31 : decode cX6_changeSetting 31 = .ok (.iconst 1, 1) := by decide +kernel
theorem dX6_changeSetting_32 : decode cX6_changeSetting 32 = .ok (.bipush 9, 2) := by decide +kernel
theorem dX6_changeSetting_34 : decode cX6_changeSetting 34 = .ok (.invokestatic 107, 3) := by decide +kernel
theorem dX6_changeSetting_37 : decode cX6_changeSetting 37 = .ok (.ireturn, 1) := by decide +kernel
theorem dX6_changeSetting_38 : decode cX6_changeSetting 38 = .ok (.aload_n 0, 1) := by decide +kernel
theorem dX6_changeSetting_39 : decode cX6_changeSetting 39 = .ok (.bipush 6, 2) := by decide +kernel
theorem dX6_changeSetting_41 : decode cX6_changeSetting 41 = .ok (.iload_n 2, 1) := by decide +kernel
theorem dX6_changeSetting_42 : decode cX6_changeSetting 42 = .ok (.iconst 0, 1) := by decide +kernel
theorem dX6_changeSetting_43 : decode cX6_changeSetting 43 = .ok (.bipush 36, 2) := by decide +kernel
theorem dX6_changeSetting_45 : decode cX6_changeSetting 45 = .ok (.invokestatic 107, 3) := by decide +kernel
theorem dX6_changeSetting_48 : decode cX6_changeSetting 48 = .ok (.ireturn, 1) := by decide +kernel
theorem dX6_changeSetting_49 : decode cX6_changeSetting 49 = .ok (.ldc 9, 2) := by decide +kernel
theorem dX6_changeSetting_51 : decode cX6_changeSetting 51 = .ok (.ireturn, 1) := by decide +kernel
theorem dX6_replace_0 : decode cX6_replace 0 = .ok (.iload_n 2, 1) := by decide +kernel
theorem dX6_replace_1 : decode cX6_replace 1 = .ok (.iload_n 3, 1) := by decide +kernel
theorem dX6_replace_2 : decode cX6_replace 2 = .ok (.if_icmp .lt 9, 3) := by decide +kernel
theorem dX6_replace_5 : decode cX6_replace 5 = .ok (.iload_n 2, 1) := by decide +kernel
theorem dX6_replace_6 : decode cX6_replace 6 = .ok (.iload 4, 2) := by decide +kernel
theorem dX6_replace_8 : decode cX6_replace 8 = .ok (.if_icmp .le 6, 3) := by decide +kernel
theorem dX6_replace_11 : decode cX6_replace 11 = .ok (.ldc 9, 2) := by decide +kernel
theorem dX6_replace_13 : decode cX6_replace 13 = .ok (.ireturn, 1) := by decide +kernel
theorem dX6_replace_14 : decode cX6_replace 14 = .ok (.aload_n 0, 1) := by decide +kernel
theorem dX6_replace_15 : decode cX6_replace 15 = .ok (.iload_n 1, 1) := by decide +kernel
theorem dX6_replace_16 : decode cX6_replace 16 = .ok (.invokevirtual 82, 3) := by decide +kernel
theorem dX6_replace_19 : decode cX6_replace 19 = .ok (.istore 5, 2) := by decide +kernel
theorem dX6_replace_21 : decode cX6_replace 21 = .ok (.aload_n 0, 1) := by decide +kernel
theorem dX6_replace_22 : decode cX6_replace 22 = .ok (.iload_n 1, 1) := by decide +kernel
theorem dX6_replace_23 : decode cX6_replace 23 = .ok (.iload_n 2, 1) := by decide +kernel
theorem dX6_replace_24 : decode cX6_replace 24 = .ok (.invokevirtual 21, 3) := by decide +kernel
theorem dX6_replace_27 : decode cX6_replace 27 = .ok (.iload 5, 2) := by decide +kernel
theorem dX6_replace_29 : decode cX6_replace 29 = .ok (.ireturn, 1) := by decide +kernel
theorem dX7_init_0 : decode cX7_init 0 = .ok (.aload_n 0, 1) := by decide +kernel
theorem dX7_init_1 : decode cX7_init 1 = .ok (.invokespecial 1, 3) := by decide +kernel
theorem dX7_init_4 : decode cX7_init 4 = .ok (.aload_n 0, 1) := by decide +kernel
theorem dX7_init_5 : decode cX7_init 5 = .ok (.new 7, 3) := by decide +kernel
theorem dX7_init_8 : decode cX7_init 8 = .ok (.dup, 1) := by decide +kernel
theorem dX7_init_9 : decode cX7_init 9 = .ok (.invokespecial 9, 3) := by decide +kernel
theorem dX7_init_12 : decode cX7_init 12 = .ok (.putfield 10, 3) := by decide +kernel
theorem dX7_init_15 : decode cX7_init 15 = .ok (.aload_n 0, 1) := by decide +kernel
theorem dX7_init_16 : decode cX7_init 16 = .ok (.new 7, 3) := by decide +kernel
theorem dX7_init_19 : decode cX7_init 19 = .ok (.dup, 1) := by decide +kernel
theorem dX7_init_20 : decode cX7_init 20 = .ok (.invokespecial 9, 3) := by decide +kernel
theorem dX7_init_23 : decode cX7_init 23 = .ok (.putfield 16, 3) := by decide +kernel
theorem dX7_init_26 : decode cX7_init 26 = .ok (.aload_n 0, 1) := by decide +kernel
theorem dX7_init_27 : decode cX7_init 27 = .ok (.new 19, 3) := by decide +kernel
theorem dX7_init_30 : decode cX7_init 30 = .ok (.dup, 1) := by decide +kernel
theorem dX7_init_31 : decode cX7_init 31 = .ok (.invokespecial 21, 3) := by decide +kernel
theorem dX7_init_34 : decode cX7_init 34 = .ok (.putfield 22, 3) := by decide +kernel
theorem dX7_init_37 : decode cX7_init 37 = .ok (.aload_n 0, 1) := by decide +kernel
theorem dX7_init_38 : decode cX7_init 38 = .ok (.new 26, 3) := by decide +kernel
theorem dX7_init_41 : decode cX7_init 41 = .ok (.dup, 1) := by decide +kernel
theorem dX7_init_42 : decode cX7_init 42 = .ok (.invokespecial 28, 3) := by decide +kernel
theorem dX7_init_45 : decode cX7_init 45 = .ok (.putfield 29, 3) := by decide +kernel
theorem dX7_init_48 : decode cX7_init 48 = .ok (.aload_n 0, 1) := by decide +kernel
theorem dX7_init_49 : decode cX7_init 49 = .ok (.new 33, 3) := by decide +kernel
theorem dX7_init_52 : decode cX7_init 52 = .ok (.dup, 1) := by decide +kernel
theorem dX7_init_53 : decode cX7_init 53 = .ok (.invokespecial 35, 3) := by decide +kernel
theorem dX7_init_56 : decode cX7_init 56 = .ok (.putfield 36, 3) := by decide +kernel
theorem dX7_init_59 : decode cX7_init 59 = .ok (.aload_n 0, 1) := by decide +kernel
theorem dX7_init_60 : decode cX7_init 60 = .ok (.new 40, 3) := by decide +kernel
theorem dX7_init_63 : decode cX7_init 63 = .ok (.dup, 1) := by decide +kernel
theorem dX7_init_64 : decode cX7_init 64 = .ok (.invokespecial 42, 3) := by decide +kernel
theorem dX7_init_67 : decode cX7_init 67 = .ok (.putfield 43, 3) := by decide +kernel
theorem dX7_init_70 : decode cX7_init 70 = .ok (.return_, 1) := by decide +kernel
theorem dX7_shade_0 : decode cX7_shade 0 = .ok (.aload_n 0, 1) := by decide +kernel
theorem dX7_shade_1 : decode cX7_shade 1 = .ok (.aload_n 0, 1) := by decide +kernel
theorem dX7_shade_2 : decode cX7_shade 2 = .ok (.invokevirtual 47, 3) := by decide +kernel
theorem dX7_shade_5 : decode cX7_shade 5 = .ok (.iload_n 1, 1) := by decide +kernel
theorem dX7_shade_6 : decode cX7_shade 6 = .ok (.iload_n 2, 1) := by decide +kernel
theorem dX7_shade_7 : decode cX7_shade 7 = .ok (.invokestatic 51, 3) := by decide +kernel
theorem dX7_shade_10 : decode cX7_shade 10 = .ok (.invokevirtual 57, 3) := by decide +kernel
theorem dX7_shade_13 : decode cX7_shade 13 = .ok (.ireturn, 1) := by decide +kernel
theorem dX7_string_0 : decode cX7_string 0 = .ok (.aload_n 0, 1) := by decide +kernel
theorem dX7_string_1 : decode cX7_string 1 = .ok (.aload_n 0, 1) := by decide +kernel
theorem dX7_string_2 : decode cX7_string 2 = .ok (.invokevirtual 47, 3) := by decide +kernel
theorem dX7_string_5 : decode cX7_string 5 = .ok (.iload_n 1, 1) := by decide +kernel
theorem dX7_string_6 : decode cX7_string 6 = .ok (.iload_n 2, 1) := by decide +kernel
theorem dX7_string_7 : decode cX7_string 7 = .ok (.invokestatic 61, 3) := by decide +kernel
theorem dX7_string_10 : decode cX7_string 10 = .ok (.invokevirtual 57, 3) := by decide +kernel
theorem dX7_string_13 : decode cX7_string 13 = .ok (.ireturn, 1) := by decide +kernel
theorem dX7_pull_0 : decode cX7_pull 0 = .ok (.aload_n 0, 1) := by decide +kernel
theorem dX7_pull_1 : decode cX7_pull 1 = .ok (.invokevirtual 47, 3) := by decide +kernel
theorem dX7_pull_4 : decode cX7_pull 4 = .ok (.iload_n 1, 1) := by decide +kernel
theorem dX7_pull_5 : decode cX7_pull 5 = .ok (.iload_n 2, 1) := by decide +kernel
theorem dX7_pull_6 : decode cX7_pull 6 = .ok (.invokestatic 64, 3) := by decide +kernel
theorem dX7_pull_9 : decode cX7_pull 9 = .ok (.istore_n 3, 1) := by decide +kernel
theorem dX7_pull_10 : decode cX7_pull 10 = .ok (.aload_n 0, 1) := by decide +kernel
theorem dX7_pull_11 : decode cX7_pull 11 = .ok (.iload_n 3, 1) := by decide +kernel
theorem dX7_pull_12 : decode cX7_pull 12 = .ok (.invokestatic 67, 3) := by decide +kernel
theorem dX7_pull_15 : decode cX7_pull 15 = .ok (.ifCond .eq 7, 3) := by decide +kernel
theorem dX7_pull_18 : decode cX7_pull 18 = .ok (.iload_n 3, 1) := by decide +kernel
theorem dX7_pull_19 : decode cX7_pull 19 = .ok (.goto 14, 3) := by decide +kernel
theorem dX7_pull_22 : decode cX7_pull 22 = .ok (.aload_n 0, 1) := by decide +kernel
theorem dX7_pull_23 : decode cX7_pull 23 = .ok (.getfield 16, 3) := by decide +kernel
theorem dX7_pull_26 : decode cX7_pull 26 = .ok (.aload_n 0, 1) := by decide +kernel
theorem dX7_pull_27 : decode cX7_pull 27 = .ok (.getfield 10, 3) := by decide +kernel
theorem dX7_pull_30 : decode cX7_pull 30 = .ok (.invokevirtual 71, 3) := by decide +kernel
theorem dX7_pull_33 : decode cX7_pull 33 = .ok (.invokevirtual 57, 3) := by decide +kernel
theorem dX7_pull_36 : decode cX7_pull 36 = .ok (.ireturn, 1) := by decide +kernel
theorem dX7_untie_0 : decode cX7_untie 0 = .ok (.aload_n 0, 1) := by decide +kernel
theorem dX7_untie_1 : decode cX7_untie 1 = .ok (.aload_n 0, 1) := by decide +kernel
theorem dX7_untie_2 : decode cX7_untie 2 = .ok (.invokevirtual 47, 3) := by decide +kernel
theorem dX7_untie_5 : decode cX7_untie 5 = .ok (.iload_n 1, 1) := by decide +kernel
theorem dX7_untie_6 : decode cX7_untie 6 = .ok (.invokestatic 75, 3) := by decide +kernel
theorem dX7_untie_9 : decode cX7_untie 9 = .ok (.invokevirtual 57, 3) := by decide +kernel
theorem dX7_untie_12 : decode cX7_untie 12 = .ok (.ireturn, 1) := by decide +kernel
theorem dX7_tell_0 : decode cX7_tell 0 = .ok (.aload_n 0, 1) := by decide +kernel
theorem dX7_tell_1 : decode cX7_tell 1 = .ok (.aload_n 0, 1) := by decide +kernel
theorem dX7_tell_2 : decode cX7_tell 2 = .ok (.invokevirtual 47, 3) := by decide +kernel
theorem dX7_tell_5 : decode cX7_tell 5 = .ok (.iload_n 1, 1) := by decide +kernel
theorem dX7_tell_6 : decode cX7_tell 6 = .ok (.iload_n 2, 1) := by decide +kernel
theorem dX7_tell_7 : decode cX7_tell 7 = .ok (.invokestatic 79, 3) := by decide +kernel
theorem dX7_tell_10 : decode cX7_tell 10 = .ok (.invokevirtual 57, 3) := by decide +kernel
theorem dX7_tell_13 : decode cX7_tell 13 = .ok (.ireturn, 1) := by decide +kernel
theorem dX7_untell_0 : decode cX7_untell 0 = .ok (.aload_n 0, 1) := by decide +kernel
theorem dX7_untell_1 : decode cX7_untell 1 = .ok (.aload_n 0, 1) := by decide +kernel
theorem dX7_untell_2 : decode cX7_untell 2 = .ok (.invokevirtual 47, 3) := by decide +kernel
theorem dX7_untell_5 : decode cX7_untell 5 = .ok (.invokestatic 82, 3) := by decide +kernel
theorem dX7_untell_8 : decode cX7_untell 8 = .ok (.invokevirtual 57, 3) := by decide +kernel
theorem dX7_untell_11 : decode cX7_untell 11 = .ok (.ireturn, 1) := by decide +kernel
theorem dX7_pass_0 : decode cX7_pass 0 = .ok (.aload_n 0, 1) := by decide +kernel
theorem dX7_pass_1 : decode cX7_pass 1 = .ok (.aload_n 0, 1) := by decide +kernel
theorem dX7_pass_2 : decode cX7_pass 2 = .ok (.invokevirtual 47, 3) := by decide +kernel
theorem dX7_pass_5 : decode cX7_pass 5 = .ok (.iload_n 1, 1) := by decide +kernel
theorem dX7_pass_6 : decode cX7_pass 6 = .ok (.invokestatic 85, 3) := by decide +kernel
theorem dX7_pass_9 : decode cX7_pass 9 = .ok (.invokevirtual 57, 3) := by decide +kernel
theorem dX7_pass_12 : decode cX7_pass 12 = .ok (.ireturn, 1) := by decide +kernel
theorem dX7_set_0 : decode cX7_set 0 = .ok (.aload_n 0, 1) := by decide +kernel
theorem dX7_set_1 : decode cX7_set 1 = .ok (.aload_n 0, 1) := by decide +kernel
theorem dX7_set_2 : decode cX7_set 2 = .ok (.invokevirtual 47, 3) := by decide +kernel
theorem dX7_set_5 : decode cX7_set 5 = .ok (.iload_n 1, 1) := by decide +kernel
theorem dX7_set_6 : decode cX7_set 6 = .ok (.iload_n 2, 1) := by decide +kernel
theorem dX7_set_7 : decode cX7_set 7 = .ok (.invokestatic 88, 3) := by decide +kernel
theorem dX7_set_10 : decode cX7_set 10 = .ok (.invokevirtual 57, 3) := by decide +kernel
theorem dX7_set_13 : decode cX7_set 13 = .ok (.ireturn, 1) := by decide +kernel
theorem dX7_shadeOf_0 : decode cX7_shadeOf 0 = .ok (.aload_n 0, 1) := by decide +kernel
theorem dX7_shadeOf_1 : decode cX7_shadeOf 1 = .ok (.getfield 10, 3) := by decide +kernel
theorem dX7_shadeOf_4 : decode cX7_shadeOf 4 = .ok (.iload_n 1, 1) := by decide +kernel
theorem dX7_shadeOf_5 : decode cX7_shadeOf 5 = .ok (.invokevirtual 91, 3) := by decide +kernel
theorem dX7_shadeOf_8 : decode cX7_shadeOf 8 = .ok (.ifCond .ne 6, 3) := by decide +kernel
theorem dX7_shadeOf_11 : decode cX7_shadeOf 11 = .ok (.ldc 94, 2) := by decide +kernel
theorem dX7_shadeOf_13 : decode cX7_shadeOf 13 = .ok (.ireturn, 1) := by decide +kernel
theorem dX7_shadeOf_14 : decode cX7_shadeOf 14 = .ok (.iload_n 2, 1) := by decide +kernel
theorem dX7_shadeOf_15 : decode cX7_shadeOf 15 = .ok (.tableswitch 180 0 9 #[53, 63, 73, 83, 93, 102, 111, 121, 131, 158], 53) := by decide +kernel
theorem dX7_shadeOf_68 : decode cX7_shadeOf 68 = .ok (.aload_n 0, 1) := by decide +kernel
theorem dX7_shadeOf_69 : decode cX7_shadeOf 69 = .ok (.getfield 10, 3) := by decide +kernel
theorem dX7_shadeOf_72 : decode cX7_shadeOf 72 = .ok (.iload_n 1, 1) := by decide +kernel
theorem dX7_shadeOf_73 : decode cX7_shadeOf 73 = .ok (.iconst 0, 1) := by decide +kernel
theorem dX7_shadeOf_74 : decode cX7_shadeOf 74 = .ok (.invokevirtual 95, 3) := by decide +kernel
theorem dX7_shadeOf_77 : decode cX7_shadeOf 77 = .ok (.ireturn, 1) := by decide +kernel
theorem dX7_shadeOf_78 : decode cX7_shadeOf 78 = .ok (.aload_n 0, 1) := by decide +kernel
theorem dX7_shadeOf_79 : decode cX7_shadeOf 79 = .ok (.getfield 10, 3) := by decide +kernel
theorem dX7_shadeOf_82 : decode cX7_shadeOf 82 = .ok (.iload_n 1, 1) := by decide +kernel
theorem dX7_shadeOf_83 : decode cX7_shadeOf 83 = .ok (.iconst 1, 1) := by decide +kernel
theorem dX7_shadeOf_84 : decode cX7_shadeOf 84 = .ok (.invokevirtual 95, 3) := by decide +kernel
theorem dX7_shadeOf_87 : decode cX7_shadeOf 87 = .ok (.ireturn, 1) := by decide +kernel
theorem dX7_shadeOf_88 : decode cX7_shadeOf 88 = .ok (.aload_n 0, 1) := by decide +kernel
theorem dX7_shadeOf_89 : decode cX7_shadeOf 89 = .ok (.getfield 10, 3) := by decide +kernel
theorem dX7_shadeOf_92 : decode cX7_shadeOf 92 = .ok (.iload_n 1, 1) := by decide +kernel
theorem dX7_shadeOf_93 : decode cX7_shadeOf 93 = .ok (.iconst 2, 1) := by decide +kernel
theorem dX7_shadeOf_94 : decode cX7_shadeOf 94 = .ok (.invokevirtual 95, 3) := by decide +kernel
theorem dX7_shadeOf_97 : decode cX7_shadeOf 97 = .ok (.ireturn, 1) := by decide +kernel
theorem dX7_shadeOf_98 : decode cX7_shadeOf 98 = .ok (.aload_n 0, 1) := by decide +kernel
theorem dX7_shadeOf_99 : decode cX7_shadeOf 99 = .ok (.getfield 10, 3) := by decide +kernel
theorem dX7_shadeOf_102 : decode cX7_shadeOf 102 = .ok (.iload_n 1, 1) := by decide +kernel
theorem dX7_shadeOf_103 : decode cX7_shadeOf 103 = .ok (.iconst 3, 1) := by decide +kernel
theorem dX7_shadeOf_104 : decode cX7_shadeOf 104 = .ok (.invokevirtual 95, 3) := by decide +kernel
theorem dX7_shadeOf_107 : decode cX7_shadeOf 107 = .ok (.ireturn, 1) := by decide +kernel
theorem dX7_shadeOf_108 : decode cX7_shadeOf 108 = .ok (.aload_n 0, 1) := by decide +kernel
theorem dX7_shadeOf_109 : decode cX7_shadeOf 109 = .ok (.getfield 10, 3) := by decide +kernel
theorem dX7_shadeOf_112 : decode cX7_shadeOf 112 = .ok (.iload_n 1, 1) := by decide +kernel
theorem dX7_shadeOf_113 : decode cX7_shadeOf 113 = .ok (.invokevirtual 99, 3) := by decide +kernel
theorem dX7_shadeOf_116 : decode cX7_shadeOf 116 = .ok (.ireturn, 1) := by decide +kernel
theorem dX7_shadeOf_117 : decode cX7_shadeOf 117 = .ok (.aload_n 0, 1) := by decide +kernel
theorem dX7_shadeOf_118 : decode cX7_shadeOf 118 = .ok (.getfield 10, 3) := by decide +kernel
theorem dX7_shadeOf_121 : decode cX7_shadeOf 121 = .ok (.iload_n 1, 1) := by decide +kernel
theorem dX7_shadeOf_122 : decode cX7_shadeOf 122 = .ok (.invokestatic 102, 3) := by decide +kernel
theorem dX7_shadeOf_125 : decode cX7_shadeOf 125 = .ok (.ireturn, 1) := by decide +kernel
theorem dX7_shadeOf_126 : decode cX7_shadeOf 126 = .ok (.aload_n 0, 1) := by decide +kernel
theorem dX7_shadeOf_127 : decode cX7_shadeOf 127 = .ok (.getfield 10, 3) := by decide +kernel
theorem dX7_shadeOf_130 : decode cX7_shadeOf 130 = .ok (.iload_n 1, 1) := by decide +kernel
theorem dX7_shadeOf_131 : decode cX7_shadeOf 131 = .ok (.iconst 4, 1) := by decide +kernel
theorem dX7_shadeOf_132 : decode cX7_shadeOf 132 = .ok (.invokevirtual 95, 3) := by decide +kernel
theorem dX7_shadeOf_135 : decode cX7_shadeOf 135 = .ok (.ireturn, 1) := by decide +kernel
theorem dX7_shadeOf_136 : decode cX7_shadeOf 136 = .ok (.aload_n 0, 1) := by decide +kernel
theorem dX7_shadeOf_137 : decode cX7_shadeOf 137 = .ok (.getfield 10, 3) := by decide +kernel
theorem dX7_shadeOf_140 : decode cX7_shadeOf 140 = .ok (.iload_n 1, 1) := by decide +kernel
theorem dX7_shadeOf_141 : decode cX7_shadeOf 141 = .ok (.iconst 5, 1) := by decide +kernel
theorem dX7_shadeOf_142 : decode cX7_shadeOf 142 = .ok (.invokevirtual 95, 3) := by decide +kernel
theorem dX7_shadeOf_145 : decode cX7_shadeOf 145 = .ok (.ireturn, 1) := by decide +kernel
theorem dX7_shadeOf_146 : decode cX7_shadeOf 146 = .ok (.aload_n 0, 1) := by decide +kernel
theorem dX7_shadeOf_147 : decode cX7_shadeOf 147 = .ok (.getfield 10, 3) := by decide +kernel
theorem dX7_shadeOf_150 : decode cX7_shadeOf 150 = .ok (.iload_n 1, 1) := by decide +kernel
theorem dX7_shadeOf_151 : decode cX7_shadeOf 151 = .ok (.invokevirtual 107, 3) := by decide +kernel
theorem dX7_shadeOf_154 : decode cX7_shadeOf 154 = .ok (.ifCond .eq 16, 3) := by decide +kernel
theorem dX7_shadeOf_157 : decode cX7_shadeOf 157 = .ok (.aload_n 0, 1) := by decide +kernel
theorem dX7_shadeOf_158 : decode cX7_shadeOf 158 = .ok (.getfield 10, 3) := by decide +kernel
theorem dX7_shadeOf_161 : decode cX7_shadeOf 161 = .ok (.iload_n 1, 1) := by decide +kernel
theorem dX7_shadeOf_162 : decode cX7_shadeOf 162 = .ok (.bipush 6, 2) := by decide +kernel
theorem dX7_shadeOf_164 : decode cX7_shadeOf 164 = .ok (.invokevirtual 95, 3) := by decide +kernel
theorem dX7_shadeOf_167 : decode cX7_shadeOf 167 = .ok (.goto 5, 3) := by decide +kernel
theorem dX7_shadeOf_170 : decode cX7_shadeOf 170 = .ok (.ldc 110, 2) := by decide +kernel
theorem dX7_shadeOf_172 : decode cX7_shadeOf 172 = .ok (.ireturn, 1) := by decide +kernel
theorem dX7_shadeOf_173 : decode cX7_shadeOf 173 = .ok (.aload_n 0, 1) := by decide +kernel
theorem dX7_shadeOf_174 : decode cX7_shadeOf 174 = .ok (.getfield 10, 3) := by decide +kernel
theorem dX7_shadeOf_177 : decode cX7_shadeOf 177 = .ok (.iload_n 1, 1) := by decide +kernel
theorem dX7_shadeOf_178 : decode cX7_shadeOf 178 = .ok (.invokevirtual 107, 3) := by decide +kernel
theorem dX7_shadeOf_181 : decode cX7_shadeOf 181 = .ok (.ifCond .eq 11, 3) := by decide +kernel
theorem dX7_shadeOf_184 : decode cX7_shadeOf 184 = .ok (.aload_n 0, 1) := by decide +kernel
theorem dX7_shadeOf_185 : decode cX7_shadeOf 185 = .ok (.iload_n 1, 1) := by decide +kernel
theorem dX7_shadeOf_186 : decode cX7_shadeOf 186 = .ok (.invokevirtual 111, 3) := by decide +kernel
theorem dX7_shadeOf_189 : decode cX7_shadeOf 189 = .ok (.goto 5, 3) := by decide +kernel
theorem dX7_shadeOf_192 : decode cX7_shadeOf 192 = .ok (.ldc 110, 2) := by decide +kernel
theorem dX7_shadeOf_194 : decode cX7_shadeOf 194 = .ok (.ireturn, 1) := by decide +kernel
theorem dX7_shadeOf_195 : decode cX7_shadeOf 195 = .ok (.ldc 94, 2) := by decide +kernel
theorem dX7_shadeOf_197 : decode cX7_shadeOf 197 = .ok (.ireturn, 1) := by decide +kernel
theorem dX7_stringOf_0 : decode cX7_stringOf 0 = .ok (.aload_n 0, 1) := by decide +kernel
theorem dX7_stringOf_1 : decode cX7_stringOf 1 = .ok (.getfield 10, 3) := by decide +kernel
theorem dX7_stringOf_4 : decode cX7_stringOf 4 = .ok (.iload_n 1, 1) := by decide +kernel
theorem dX7_stringOf_5 : decode cX7_stringOf 5 = .ok (.invokevirtual 114, 3) := by decide +kernel
theorem dX7_stringOf_8 : decode cX7_stringOf 8 = .ok (.ifCond .ne 6, 3) := by decide +kernel
theorem dX7_stringOf_11 : decode cX7_stringOf 11 = .ok (.ldc 94, 2) := by decide +kernel
theorem dX7_stringOf_13 : decode cX7_stringOf 13 = .ok (.ireturn, 1) := by decide +kernel
theorem dX7_stringOf_14 : decode cX7_stringOf 14 = .ok (.iload_n 2, 1) := by decide +kernel
theorem dX7_stringOf_15 : decode cX7_stringOf 15 = .ok (.tableswitch 72 0 3 #[29, 39, 49, 62], 29) := by decide +kernel
theorem dX7_stringOf_44 : decode cX7_stringOf 44 = .ok (.aload_n 0, 1) := by decide +kernel
theorem dX7_stringOf_45 : decode cX7_stringOf 45 = .ok (.getfield 10, 3) := by decide +kernel
theorem dX7_stringOf_48 : decode cX7_stringOf 48 = .ok (.iload_n 1, 1) := by decide +kernel
theorem dX7_stringOf_49 : decode cX7_stringOf 49 = .ok (.iconst 0, 1) := by decide +kernel
theorem dX7_stringOf_50 : decode cX7_stringOf 50 = .ok (.invokevirtual 117, 3) := by decide +kernel
theorem dX7_stringOf_53 : decode cX7_stringOf 53 = .ok (.ireturn, 1) := by decide +kernel
theorem dX7_stringOf_54 : decode cX7_stringOf 54 = .ok (.aload_n 0, 1) := by decide +kernel
theorem dX7_stringOf_55 : decode cX7_stringOf 55 = .ok (.getfield 10, 3) := by decide +kernel
theorem dX7_stringOf_58 : decode cX7_stringOf 58 = .ok (.iload_n 1, 1) := by decide +kernel
theorem dX7_stringOf_59 : decode cX7_stringOf 59 = .ok (.iconst 1, 1) := by decide +kernel
theorem dX7_stringOf_60 : decode cX7_stringOf 60 = .ok (.invokevirtual 117, 3) := by decide +kernel
theorem dX7_stringOf_63 : decode cX7_stringOf 63 = .ok (.ireturn, 1) := by decide +kernel
theorem dX7_stringOf_64 : decode cX7_stringOf 64 = .ok (.aload_n 0, 1) := by decide +kernel
theorem dX7_stringOf_65 : decode cX7_stringOf 65 = .ok (.getfield 10, 3) := by decide +kernel
theorem dX7_stringOf_68 : decode cX7_stringOf 68 = .ok (.iload_n 1, 1) := by decide +kernel
theorem dX7_stringOf_69 : decode cX7_stringOf 69 = .ok (.iconst 2, 1) := by decide +kernel
theorem dX7_stringOf_70 : decode cX7_stringOf 70 = .ok (.invokevirtual 117, 3) := by decide +kernel
theorem dX7_stringOf_73 : decode cX7_stringOf 73 = .ok (.ldc 120, 2) := by decide +kernel
theorem dX7_stringOf_75 : decode cX7_stringOf 75 = .ok (.iadd, 1) := by decide +kernel
theorem dX7_stringOf_76 : decode cX7_stringOf 76 = .ok (.ireturn, 1) := by decide +kernel
theorem dX7_stringOf_77 : decode cX7_stringOf 77 = .ok (.aload_n 0, 1) := by decide +kernel
theorem dX7_stringOf_78 : decode cX7_stringOf 78 = .ok (.getfield 10, 3) := by decide +kernel
theorem dX7_stringOf_81 : decode cX7_stringOf 81 = .ok (.iload_n 1, 1) := by decide +kernel
theorem dX7_stringOf_82 : decode cX7_stringOf 82 = .ok (.iconst 3, 1) := by decide +kernel
theorem dX7_stringOf_83 : decode cX7_stringOf 83 = .ok (.invokevirtual 117, 3) := by decide +kernel
theorem dX7_stringOf_86 : decode cX7_stringOf 86 = .ok (.ireturn, 1) := by decide +kernel
theorem dX7_stringOf_87 : decode cX7_stringOf 87 = .ok (.ldc 94, 2) := by decide +kernel
theorem dX7_stringOf_89 : decode cX7_stringOf 89 = .ok (.ireturn, 1) := by decide +kernel
theorem dX7_groupAt_0 : decode cX7_groupAt 0 = .ok (.iload_n 1, 1) := by decide +kernel
theorem dX7_groupAt_1 : decode cX7_groupAt 1 = .ok (.ifCond .ge 6, 3) := by decide +kernel
theorem dX7_groupAt_4 : decode cX7_groupAt 4 = .ok (.ldc 94, 2) := by decide +kernel
theorem dX7_groupAt_6 : decode cX7_groupAt 6 = .ok (.ireturn, 1) := by decide +kernel
theorem dX7_groupAt_7 : decode cX7_groupAt 7 = .ok (.iconst 0, 1) := by decide +kernel
theorem dX7_groupAt_8 : decode cX7_groupAt 8 = .ok (.istore_n 2, 1) := by decide +kernel
theorem dX7_groupAt_9 : decode cX7_groupAt 9 = .ok (.iconst 0, 1) := by decide +kernel
theorem dX7_groupAt_10 : decode cX7_groupAt 10 = .ok (.istore_n 3, 1) := by decide +kernel
theorem dX7_groupAt_11 : decode cX7_groupAt 11 = .ok (.iload_n 3, 1) := by decide +kernel
theorem dX7_groupAt_12 : decode cX7_groupAt 12 = .ok (.aload_n 0, 1) := by decide +kernel
theorem dX7_groupAt_13 : decode cX7_groupAt 13 = .ok (.getfield 10, 3) := by decide +kernel
theorem dX7_groupAt_16 : decode cX7_groupAt 16 = .ok (.invokevirtual 121, 3) := by decide +kernel
theorem dX7_groupAt_19 : decode cX7_groupAt 19 = .ok (.if_icmp .ge 37, 3) := by decide +kernel
theorem dX7_groupAt_22 : decode cX7_groupAt 22 = .ok (.aload_n 0, 1) := by decide +kernel
theorem dX7_groupAt_23 : decode cX7_groupAt 23 = .ok (.getfield 10, 3) := by decide +kernel
theorem dX7_groupAt_26 : decode cX7_groupAt 26 = .ok (.iload_n 3, 1) := by decide +kernel
theorem dX7_groupAt_27 : decode cX7_groupAt 27 = .ok (.invokevirtual 125, 3) := by decide +kernel
theorem dX7_groupAt_30 : decode cX7_groupAt 30 = .ok (.ifCond .eq 20, 3) := by decide +kernel
theorem dX7_groupAt_33 : decode cX7_groupAt 33 = .ok (.iload_n 2, 1) := by decide +kernel
theorem dX7_groupAt_34 : decode cX7_groupAt 34 = .ok (.iload_n 1, 1) := by decide +kernel
theorem dX7_groupAt_35 : decode cX7_groupAt 35 = .ok (.if_icmp .ne 12, 3) := by decide +kernel
theorem dX7_groupAt_38 : decode cX7_groupAt 38 = .ok (.aload_n 0, 1) := by decide +kernel
theorem dX7_groupAt_39 : decode cX7_groupAt 39 = .ok (.getfield 10, 3) := by decide +kernel
theorem dX7_groupAt_42 : decode cX7_groupAt 42 = .ok (.iload_n 3, 1) := by decide +kernel
theorem dX7_groupAt_43 : decode cX7_groupAt 43 = .ok (.invokevirtual 99, 3) := by decide +kernel
theorem dX7_groupAt_46 : decode cX7_groupAt 46 = .ok (.ireturn, 1) := by decide +kernel
theorem dX7_groupAt_47 : decode cX7_groupAt 47 = .ok (.iinc 2 1, 3) := by decide +kernel
theorem dX7_groupAt_50 : decode cX7_groupAt 50 = .ok (.iinc 3 1, 3) := by decide +kernel
theorem dX7_groupAt_53 : decode cX7_groupAt 53 = .ok (.goto (-42), 3) := by decide +kernel
theorem dX7_groupAt_56 : decode cX7_groupAt 56 = .ok (.ldc 110, 2) := by decide +kernel
theorem dX7_groupAt_58 : decode cX7_groupAt 58 = .ok (.ireturn, 1) := by decide +kernel
theorem dX7_would_0 : decode cX7_would 0 = .ok (.aload_n 0, 1) := by decide +kernel
theorem dX7_would_1 : decode cX7_would 1 = .ok (.invokevirtual 47, 3) := by decide +kernel
theorem dX7_would_4 : decode cX7_would 4 = .ok (.astore 4, 2) := by decide +kernel
theorem dX7_would_6 : decode cX7_would 6 = .ok (.aload 4, 2) := by decide +kernel
theorem dX7_would_8 : decode cX7_would 8 = .ok (.iload_n 1, 1) := by decide +kernel
theorem dX7_would_9 : decode cX7_would 9 = .ok (.iload_n 2, 1) := by decide +kernel
theorem dX7_would_10 : decode cX7_would 10 = .ok (.invokestatic 64, 3) := by decide +kernel
theorem dX7_would_13 : decode cX7_would 13 = .ok (.istore 5, 2) := by decide +kernel
theorem dX7_would_15 : decode cX7_would 15 = .ok (.iload 5, 2) := by decide +kernel
theorem dX7_would_17 : decode cX7_would 17 = .ok (.invokestatic 67, 3) := by decide +kernel
theorem dX7_would_20 : decode cX7_would 20 = .ok (.ifCond .eq 6, 3) := by decide +kernel
theorem dX7_would_23 : decode cX7_would 23 = .ok (.iload 5, 2) := by decide +kernel
theorem dX7_would_25 : decode cX7_would 25 = .ok (.ireturn, 1) := by decide +kernel
theorem dX7_would_26 : decode cX7_would 26 = .ok (.iload_n 3, 1) := by decide +kernel
theorem dX7_would_27 : decode cX7_would 27 = .ok (.tableswitch 69 0 3 #[29, 39, 45, 63], 29) := by decide +kernel
theorem dX7_would_56 : decode cX7_would 56 = .ok (.aload 4, 2) := by decide +kernel
theorem dX7_would_58 : decode cX7_would 58 = .ok (.aload_n 0, 1) := by decide +kernel
theorem dX7_would_59 : decode cX7_would 59 = .ok (.getfield 10, 3) := by decide +kernel
theorem dX7_would_62 : decode cX7_would 62 = .ok (.invokevirtual 71, 3) := by decide +kernel
theorem dX7_would_65 : decode cX7_would 65 = .ok (.ireturn, 1) := by decide +kernel
theorem dX7_would_66 : decode cX7_would 66 = .ok (.aload 4, 2) := by decide +kernel
theorem dX7_would_68 : decode cX7_would 68 = .ok (.invokevirtual 128, 3) := by decide +kernel
theorem dX7_would_71 : decode cX7_would 71 = .ok (.ireturn, 1) := by decide +kernel
theorem dX7_would_72 : decode cX7_would 72 = .ok (.aload 4, 2) := by decide +kernel
theorem dX7_would_74 : decode cX7_would 74 = .ok (.iload_n 1, 1) := by decide +kernel
theorem dX7_would_75 : decode cX7_would 75 = .ok (.iconst 3, 1) := by decide +kernel
theorem dX7_would_76 : decode cX7_would 76 = .ok (.invokevirtual 117, 3) := by decide +kernel
theorem dX7_would_79 : decode cX7_would 79 = .ok (.aload_n 0, 1) := by decide +kernel
theorem dX7_would_80 : decode cX7_would 80 = .ok (.getfield 10, 3) := by decide +kernel
theorem dX7_would_83 : decode cX7_would 83 = .ok (.iload_n 1, 1) := by decide +kernel
theorem dX7_would_84 : decode cX7_would 84 = .ok (.iconst 3, 1) := by decide +kernel
theorem dX7_would_85 : decode cX7_would 85 = .ok (.invokevirtual 117, 3) := by decide +kernel
theorem dX7_would_88 : decode cX7_would 88 = .ok (.isub, 1) := by decide +kernel
theorem dX7_would_89 : decode cX7_would 89 = .ok (.ireturn, 1) := by decide +kernel
theorem dX7_would_90 : decode cX7_would 90 = .ok (.aload 4, 2) := by decide +kernel
theorem dX7_would_92 : decode cX7_would 92 = .ok (.invokevirtual 131, 3) := by decide +kernel
theorem dX7_would_95 : decode cX7_would 95 = .ok (.ireturn, 1) := by decide +kernel
theorem dX7_would_96 : decode cX7_would 96 = .ok (.aload 4, 2) := by decide +kernel
theorem dX7_would_98 : decode cX7_would 98 = .ok (.iload_n 3, 1) := by decide +kernel
theorem dX7_would_99 : decode cX7_would 99 = .ok (.invokestatic 134, 3) := by decide +kernel
theorem dX7_would_102 : decode cX7_would 102 = .ok (.ireturn, 1) := by decide +kernel
theorem dX7_leastPulls_0 : decode cX7_leastPulls 0 = .ok (.iload_n 1, 1) := by decide +kernel
theorem dX7_leastPulls_1 : decode cX7_leastPulls 1 = .ok (.iconst (-1), 1) := by decide +kernel
theorem dX7_leastPulls_2 : decode cX7_leastPulls 2 = .ok (.if_icmp .eq 17, 3) := by decide +kernel
theorem dX7_leastPulls_5 : decode cX7_leastPulls 5 = .ok (.aload_n 0, 1) := by decide +kernel
theorem dX7_leastPulls_6 : decode cX7_leastPulls 6 = .ok (.getfield 10, 3) := by decide +kernel
theorem dX7_leastPulls_9 : decode cX7_leastPulls 9 = .ok (.iload_n 1, 1) := by decide +kernel
theorem dX7_leastPulls_10 : decode cX7_leastPulls 10 = .ok (.invokevirtual 114, 3) := by decide +kernel
theorem dX7_leastPulls_13 : decode cX7_leastPulls 13 = .ok (.ifCond .ne 6, 3) := by decide +kernel
theorem dX7_leastPulls_16 : decode cX7_leastPulls 16 = .ok (.ldc 94, 2) := by decide +kernel
theorem dX7_leastPulls_18 : decode cX7_leastPulls 18 = .ok (.ireturn, 1) := by decide +kernel
theorem dX7_leastPulls_19 : decode cX7_leastPulls 19 = .ok (.aload_n 0, 1) := by decide +kernel
theorem dX7_leastPulls_20 : decode cX7_leastPulls 20 = .ok (.getfield 43, 3) := by decide +kernel
theorem dX7_leastPulls_23 : decode cX7_leastPulls 23 = .ok (.aload_n 0, 1) := by decide +kernel
theorem dX7_leastPulls_24 : decode cX7_leastPulls 24 = .ok (.getfield 10, 3) := by decide +kernel
theorem dX7_leastPulls_27 : decode cX7_leastPulls 27 = .ok (.invokevirtual 137, 3) := by decide +kernel
theorem dX7_leastPulls_30 : decode cX7_leastPulls 30 = .ok (.istore_n 2, 1) := by decide +kernel
theorem dX7_leastPulls_31 : decode cX7_leastPulls 31 = .ok (.iload_n 2, 1) := by decide +kernel
theorem dX7_leastPulls_32 : decode cX7_leastPulls 32 = .ok (.invokestatic 67, 3) := by decide +kernel
theorem dX7_leastPulls_35 : decode cX7_leastPulls 35 = .ok (.ifCond .ne 8, 3) := by decide +kernel
theorem dX7_leastPulls_38 : decode cX7_leastPulls 38 = .ok (.iload_n 1, 1) := by decide +kernel
theorem dX7_leastPulls_39 : decode cX7_leastPulls 39 = .ok (.iconst (-1), 1) := by decide +kernel
theorem dX7_leastPulls_40 : decode cX7_leastPulls 40 = .ok (.if_icmp .ne 5, 3) := by decide +kernel
theorem dX7_leastPulls_43 : decode cX7_leastPulls 43 = .ok (.iload_n 2, 1) := by decide +kernel
theorem dX7_leastPulls_44 : decode cX7_leastPulls 44 = .ok (.ireturn, 1) := by decide +kernel
theorem dX7_leastPulls_45 : decode cX7_leastPulls 45 = .ok (.aload_n 0, 1) := by decide +kernel
theorem dX7_leastPulls_46 : decode cX7_leastPulls 46 = .ok (.getfield 43, 3) := by decide +kernel
theorem dX7_leastPulls_49 : decode cX7_leastPulls 49 = .ok (.iload_n 1, 1) := by decide +kernel
theorem dX7_leastPulls_50 : decode cX7_leastPulls 50 = .ok (.invokevirtual 140, 3) := by decide +kernel
theorem dX7_leastPulls_53 : decode cX7_leastPulls 53 = .ok (.bipush 100, 2) := by decide +kernel
theorem dX7_leastPulls_55 : decode cX7_leastPulls 55 = .ok (.iadd, 1) := by decide +kernel
theorem dX7_leastPulls_56 : decode cX7_leastPulls 56 = .ok (.ireturn, 1) := by decide +kernel
theorem dX7_reallyDo_0 : decode cX7_reallyDo 0 = .ok (.aload_n 0, 1) := by decide +kernel
theorem dX7_reallyDo_1 : decode cX7_reallyDo 1 = .ok (.getfield 43, 3) := by decide +kernel
theorem dX7_reallyDo_4 : decode cX7_reallyDo 4 = .ok (.aload_n 0, 1) := by decide +kernel
theorem dX7_reallyDo_5 : decode cX7_reallyDo 5 = .ok (.getfield 10, 3) := by decide +kernel
theorem dX7_reallyDo_8 : decode cX7_reallyDo 8 = .ok (.invokevirtual 137, 3) := by decide +kernel
theorem dX7_reallyDo_11 : decode cX7_reallyDo 11 = .ok (.istore_n 1, 1) := by decide +kernel
theorem dX7_reallyDo_12 : decode cX7_reallyDo 12 = .ok (.iload_n 1, 1) := by decide +kernel
theorem dX7_reallyDo_13 : decode cX7_reallyDo 13 = .ok (.invokestatic 67, 3) := by decide +kernel
theorem dX7_reallyDo_16 : decode cX7_reallyDo 16 = .ok (.ifCond .eq 5, 3) := by decide +kernel
theorem dX7_reallyDo_19 : decode cX7_reallyDo 19 = .ok (.iload_n 1, 1) := by decide +kernel
theorem dX7_reallyDo_20 : decode cX7_reallyDo 20 = .ok (.ireturn, 1) := by decide +kernel
theorem dX7_reallyDo_21 : decode cX7_reallyDo 21 = .ok (.aload_n 0, 1) := by decide +kernel
theorem dX7_reallyDo_22 : decode cX7_reallyDo 22 = .ok (.invokevirtual 47, 3) := by decide +kernel
theorem dX7_reallyDo_25 : decode cX7_reallyDo 25 = .ok (.astore_n 2, 1) := by decide +kernel
theorem dX7_reallyDo_26 : decode cX7_reallyDo 26 = .ok (.iconst 0, 1) := by decide +kernel
theorem dX7_reallyDo_27 : decode cX7_reallyDo 27 = .ok (.istore_n 3, 1) := by decide +kernel
theorem dX7_reallyDo_28 : decode cX7_reallyDo 28 = .ok (.iload_n 3, 1) := by decide +kernel
theorem dX7_reallyDo_29 : decode cX7_reallyDo 29 = .ok (.aload_n 2, 1) := by decide +kernel
theorem dX7_reallyDo_30 : decode cX7_reallyDo 30 = .ok (.invokevirtual 143, 3) := by decide +kernel
theorem dX7_reallyDo_33 : decode cX7_reallyDo 33 = .ok (.if_icmp .ge 32, 3) := by decide +kernel
theorem dX7_reallyDo_36 : decode cX7_reallyDo 36 = .ok (.aload_n 0, 1) := by decide +kernel
theorem dX7_reallyDo_37 : decode cX7_reallyDo 37 = .ok (.getfield 43, 3) := by decide +kernel
theorem dX7_reallyDo_40 : decode cX7_reallyDo 40 = .ok (.iload_n 3, 1) := by decide +kernel
theorem dX7_reallyDo_41 : decode cX7_reallyDo 41 = .ok (.invokevirtual 140, 3) := by decide +kernel
theorem dX7_reallyDo_44 : decode cX7_reallyDo 44 = .ok (.istore 4, 2) := by decide +kernel
theorem dX7_reallyDo_46 : decode cX7_reallyDo 46 = .ok (.iload 4, 2) := by decide +kernel
theorem dX7_reallyDo_48 : decode cX7_reallyDo 48 = .ok (.ifCond .eq 11, 3) := by decide +kernel
theorem dX7_reallyDo_51 : decode cX7_reallyDo 51 = .ok (.aload_n 2, 1) := by decide +kernel
theorem dX7_reallyDo_52 : decode cX7_reallyDo 52 = .ok (.iload_n 3, 1) := by decide +kernel
theorem dX7_reallyDo_53 : decode cX7_reallyDo 53 = .ok (.iload 4, 2) := by decide +kernel
theorem dX7_reallyDo_55 : decode cX7_reallyDo 55 = .ok (.invokestatic 64, 3) := by decide +kernel
theorem dX7_reallyDo_58 : decode cX7_reallyDo 58 = .ok (.pop, 1) := by decide +kernel
theorem dX7_reallyDo_59 : decode cX7_reallyDo 59 = .ok (.iinc 3 1, 3) := by decide +kernel
theorem dX7_reallyDo_62 : decode cX7_reallyDo 62 = .ok (.goto (-34), 3) := by decide +kernel
theorem dX7_reallyDo_65 : decode cX7_reallyDo 65 = .ok (.aload_n 2, 1) := by decide +kernel
theorem dX7_reallyDo_66 : decode cX7_reallyDo 66 = .ok (.invokevirtual 131, 3) := by decide +kernel
theorem dX7_reallyDo_69 : decode cX7_reallyDo 69 = .ok (.aload_n 2, 1) := by decide +kernel
theorem dX7_reallyDo_70 : decode cX7_reallyDo 70 = .ok (.invokevirtual 146, 3) := by decide +kernel
theorem dX7_reallyDo_73 : decode cX7_reallyDo 73 = .ok (.if_icmp .ne 7, 3) := by decide +kernel
theorem dX7_reallyDo_76 : decode cX7_reallyDo 76 = .ok (.iconst 1, 1) := by decide +kernel
theorem dX7_reallyDo_77 : decode cX7_reallyDo 77 = .ok (.goto 4, 3) := by decide +kernel
theorem dX7_reallyDo_80 : decode cX7_reallyDo 80 = .ok (.iconst 0, 1) := by decide +kernel
theorem dX7_reallyDo_81 : decode cX7_reallyDo 81 = .ok (.ireturn, 1) := by decide +kernel
theorem dX7_bestHeight_0 : decode cX7_bestHeight 0 = .ok (.aload_n 0, 1) := by decide +kernel
theorem dX7_bestHeight_1 : decode cX7_bestHeight 1 = .ok (.getfield 10, 3) := by decide +kernel
theorem dX7_bestHeight_4 : decode cX7_bestHeight 4 = .ok (.iload_n 1, 1) := by decide +kernel
theorem dX7_bestHeight_5 : decode cX7_bestHeight 5 = .ok (.invokevirtual 91, 3) := by decide +kernel
theorem dX7_bestHeight_8 : decode cX7_bestHeight 8 = .ok (.ifCond .eq 12, 3) := by decide +kernel
theorem dX7_bestHeight_11 : decode cX7_bestHeight 11 = .ok (.iload_n 2, 1) := by decide +kernel
theorem dX7_bestHeight_12 : decode cX7_bestHeight 12 = .ok (.ifCond .lt 8, 3) := by decide +kernel
theorem dX7_bestHeight_15 : decode cX7_bestHeight 15 = .ok (.iload_n 2, 1) := by decide +kernel
theorem dX7_bestHeight_16 : decode cX7_bestHeight 16 = .ok (.iconst 1, 1) := by decide +kernel
theorem dX7_bestHeight_17 : decode cX7_bestHeight 17 = .ok (.if_icmp .le 6, 3) := by decide +kernel
theorem dX7_bestHeight_20 : decode cX7_bestHeight 20 = .ok (.ldc 94, 2) := by decide +kernel
theorem dX7_bestHeight_22 : decode cX7_bestHeight 22 = .ok (.ireturn, 1) := by decide +kernel
theorem dX7_bestHeight_23 : decode cX7_bestHeight 23 = .ok (.iconst 0, 1) := by decide +kernel
theorem dX7_bestHeight_24 : decode cX7_bestHeight 24 = .ok (.istore_n 3, 1) := by decide +kernel
theorem dX7_bestHeight_25 : decode cX7_bestHeight 25 = .ok (.iconst 0, 1) := by decide +kernel
theorem dX7_bestHeight_26 : decode cX7_bestHeight 26 = .ok (.istore 4, 2) := by decide +kernel
theorem dX7_bestHeight_28 : decode cX7_bestHeight 28 = .ok (.iconst 0, 1) := by decide +kernel
theorem dX7_bestHeight_29 : decode cX7_bestHeight 29 = .ok (.istore 5, 2) := by decide +kernel
theorem dX7_bestHeight_31 : decode cX7_bestHeight 31 = .ok (.iload 5, 2) := by decide +kernel
theorem dX7_bestHeight_33 : decode cX7_bestHeight 33 = .ok (.bipush 9, 2) := by decide +kernel
theorem dX7_bestHeight_35 : decode cX7_bestHeight 35 = .ok (.if_icmp .gt 35, 3) := by decide +kernel
theorem dX7_bestHeight_38 : decode cX7_bestHeight 38 = .ok (.aload_n 0, 1) := by decide +kernel
theorem dX7_bestHeight_39 : decode cX7_bestHeight 39 = .ok (.getfield 10, 3) := by decide +kernel
theorem dX7_bestHeight_42 : decode cX7_bestHeight 42 = .ok (.iload_n 1, 1) := by decide +kernel
theorem dX7_bestHeight_43 : decode cX7_bestHeight 43 = .ok (.iload 5, 2) := by decide +kernel
theorem dX7_bestHeight_45 : decode cX7_bestHeight 45 = .ok (.invokestatic 149, 3) := by decide +kernel
theorem dX7_bestHeight_48 : decode cX7_bestHeight 48 = .ok (.istore 6, 2) := by decide +kernel
theorem dX7_bestHeight_50 : decode cX7_bestHeight 50 = .ok (.iload 6, 2) := by decide +kernel
theorem dX7_bestHeight_52 : decode cX7_bestHeight 52 = .ok (.iload 4, 2) := by decide +kernel
theorem dX7_bestHeight_54 : decode cX7_bestHeight 54 = .ok (.if_icmp .le 10, 3) := by decide +kernel
theorem dX7_bestHeight_57 : decode cX7_bestHeight 57 = .ok (.iload 6, 2) := by decide +kernel
theorem dX7_bestHeight_59 : decode cX7_bestHeight 59 = .ok (.istore 4, 2) := by decide +kernel
theorem dX7_bestHeight_61 : decode cX7_bestHeight 61 = .ok (.iload 5, 2) := by decide +kernel
theorem dX7_bestHeight_63 : decode cX7_bestHeight 63 = .ok (.istore_n 3, 1) := by decide +kernel
theorem dX7_bestHeight_64 : decode cX7_bestHeight 64 = .ok (.iinc 5 1, 3) := by decide +kernel
theorem dX7_bestHeight_67 : decode cX7_bestHeight 67 = .ok (.goto (-36), 3) := by decide +kernel
theorem dX7_bestHeight_70 : decode cX7_bestHeight 70 = .ok (.iload_n 2, 1) := by decide +kernel
theorem dX7_bestHeight_71 : decode cX7_bestHeight 71 = .ok (.ifCond .ne 7, 3) := by decide +kernel
theorem dX7_bestHeight_74 : decode cX7_bestHeight 74 = .ok (.iload_n 3, 1) := by decide +kernel
theorem dX7_bestHeight_75 : decode cX7_bestHeight 75 = .ok (.goto 5, 3) := by decide +kernel
theorem dX7_bestHeight_78 : decode cX7_bestHeight 78 = .ok (.iload 4, 2) := by decide +kernel
theorem dX7_bestHeight_80 : decode cX7_bestHeight 80 = .ok (.ireturn, 1) := by decide +kernel
theorem dX7_count_0 : decode cX7_count 0 = .ok (.iload_n 1, 1) := by decide +kernel
theorem dX7_count_1 : decode cX7_count 1 = .ok (.tableswitch 229 0 21 #[103, 111, 119, 127, 135, 143, 152, 161, 169, 177, 185, 194, 202, 229, 229, 229, 229, 229, 229, 229, 210, 219], 103) := by decide +kernel
theorem dX7_count_104 : decode cX7_count 104 = .ok (.aload_n 0, 1) := by decide +kernel
theorem dX7_count_105 : decode cX7_count 105 = .ok (.getfield 10, 3) := by decide +kernel
theorem dX7_count_108 : decode cX7_count 108 = .ok (.invokevirtual 121, 3) := by decide +kernel
theorem dX7_count_111 : decode cX7_count 111 = .ok (.ireturn, 1) := by decide +kernel
theorem dX7_count_112 : decode cX7_count 112 = .ok (.aload_n 0, 1) := by decide +kernel
theorem dX7_count_113 : decode cX7_count 113 = .ok (.getfield 10, 3) := by decide +kernel
theorem dX7_count_116 : decode cX7_count 116 = .ok (.invokevirtual 143, 3) := by decide +kernel
theorem dX7_count_119 : decode cX7_count 119 = .ok (.ireturn, 1) := by decide +kernel
theorem dX7_count_120 : decode cX7_count 120 = .ok (.aload_n 0, 1) := by decide +kernel
theorem dX7_count_121 : decode cX7_count 121 = .ok (.getfield 10, 3) := by decide +kernel
theorem dX7_count_124 : decode cX7_count 124 = .ok (.invokevirtual 128, 3) := by decide +kernel
theorem dX7_count_127 : decode cX7_count 127 = .ok (.ireturn, 1) := by decide +kernel
theorem dX7_count_128 : decode cX7_count 128 = .ok (.aload_n 0, 1) := by decide +kernel
theorem dX7_count_129 : decode cX7_count 129 = .ok (.getfield 10, 3) := by decide +kernel
theorem dX7_count_132 : decode cX7_count 132 = .ok (.invokevirtual 152, 3) := by decide +kernel
theorem dX7_count_135 : decode cX7_count 135 = .ok (.ireturn, 1) := by decide +kernel
theorem dX7_count_136 : decode cX7_count 136 = .ok (.aload_n 0, 1) := by decide +kernel
theorem dX7_count_137 : decode cX7_count 137 = .ok (.getfield 10, 3) := by decide +kernel
theorem dX7_count_140 : decode cX7_count 140 = .ok (.invokevirtual 155, 3) := by decide +kernel
theorem dX7_count_143 : decode cX7_count 143 = .ok (.ireturn, 1) := by decide +kernel
theorem dX7_count_144 : decode cX7_count 144 = .ok (.aload_n 0, 1) := by decide +kernel
theorem dX7_count_145 : decode cX7_count 145 = .ok (.getfield 10, 3) := by decide +kernel
theorem dX7_count_148 : decode cX7_count 148 = .ok (.iconst 2, 1) := by decide +kernel
theorem dX7_count_149 : decode cX7_count 149 = .ok (.invokevirtual 158, 3) := by decide +kernel
theorem dX7_count_152 : decode cX7_count 152 = .ok (.ireturn, 1) := by decide +kernel
theorem dX7_count_153 : decode cX7_count 153 = .ok (.aload_n 0, 1) := by decide +kernel
theorem dX7_count_154 : decode cX7_count 154 = .ok (.getfield 10, 3) := by decide +kernel
theorem dX7_count_157 : decode cX7_count 157 = .ok (.iconst 3, 1) := by decide +kernel
theorem dX7_count_158 : decode cX7_count 158 = .ok (.invokevirtual 158, 3) := by decide +kernel
theorem dX7_count_161 : decode cX7_count 161 = .ok (.ireturn, 1) := by decide +kernel
theorem dX7_count_162 : decode cX7_count 162 = .ok (.aload_n 0, 1) := by decide +kernel
theorem dX7_count_163 : decode cX7_count 163 = .ok (.getfield 10, 3) := by decide +kernel
theorem dX7_count_166 : decode cX7_count 166 = .ok (.invokevirtual 146, 3) := by decide +kernel
theorem dX7_count_169 : decode cX7_count 169 = .ok (.ireturn, 1) := by decide +kernel
theorem dX7_count_170 : decode cX7_count 170 = .ok (.aload_n 0, 1) := by decide +kernel
theorem dX7_count_171 : decode cX7_count 171 = .ok (.getfield 10, 3) := by decide +kernel
theorem dX7_count_174 : decode cX7_count 174 = .ok (.invokevirtual 131, 3) := by decide +kernel
theorem dX7_count_177 : decode cX7_count 177 = .ok (.ireturn, 1) := by decide +kernel
theorem dX7_count_178 : decode cX7_count 178 = .ok (.aload_n 0, 1) := by decide +kernel
theorem dX7_count_179 : decode cX7_count 179 = .ok (.getfield 10, 3) := by decide +kernel
theorem dX7_count_182 : decode cX7_count 182 = .ok (.invokevirtual 161, 3) := by decide +kernel
theorem dX7_count_185 : decode cX7_count 185 = .ok (.ireturn, 1) := by decide +kernel
theorem dX7_count_186 : decode cX7_count 186 = .ok (.aload_n 0, 1) := by decide +kernel
theorem dX7_count_187 : decode cX7_count 187 = .ok (.getfield 10, 3) := by decide +kernel
theorem dX7_count_190 : decode cX7_count 190 = .ok (.iconst 4, 1) := by decide +kernel
theorem dX7_count_191 : decode cX7_count 191 = .ok (.invokevirtual 158, 3) := by decide +kernel
theorem dX7_count_194 : decode cX7_count 194 = .ok (.ireturn, 1) := by decide +kernel
theorem dX7_count_195 : decode cX7_count 195 = .ok (.aload_n 0, 1) := by decide +kernel
theorem dX7_count_196 : decode cX7_count 196 = .ok (.getfield 22, 3) := by decide +kernel
theorem dX7_count_199 : decode cX7_count 199 = .ok (.invokevirtual 164, 3) := by decide +kernel
theorem dX7_count_202 : decode cX7_count 202 = .ok (.ireturn, 1) := by decide +kernel
theorem dX7_count_203 : decode cX7_count 203 = .ok (.aload_n 0, 1) := by decide +kernel
theorem dX7_count_204 : decode cX7_count 204 = .ok (.getfield 29, 3) := by decide +kernel
theorem dX7_count_207 : decode cX7_count 207 = .ok (.invokevirtual 167, 3) := by decide +kernel
theorem dX7_count_210 : decode cX7_count 210 = .ok (.ireturn, 1) := by decide +kernel
theorem dX7_count_211 : decode cX7_count 211 = .ok (.aload_n 0, 1) := by decide +kernel
theorem dX7_count_212 : decode cX7_count 212 = .ok (.getfield 10, 3) := by decide +kernel
theorem dX7_count_215 : decode cX7_count 215 = .ok (.iconst 5, 1) := by decide +kernel
theorem dX7_count_216 : decode cX7_count 216 = .ok (.invokevirtual 158, 3) := by decide +kernel
theorem dX7_count_219 : decode cX7_count 219 = .ok (.ireturn, 1) := by decide +kernel
theorem dX7_count_220 : decode cX7_count 220 = .ok (.aload_n 0, 1) := by decide +kernel
theorem dX7_count_221 : decode cX7_count 221 = .ok (.getfield 10, 3) := by decide +kernel
theorem dX7_count_224 : decode cX7_count 224 = .ok (.bipush 6, 2) := by decide +kernel
theorem dX7_count_226 : decode cX7_count 226 = .ok (.invokevirtual 158, 3) := by decide +kernel
theorem dX7_count_229 : decode cX7_count 229 = .ok (.ireturn, 1) := by decide +kernel
theorem dX7_count_230 : decode cX7_count 230 = .ok (.ldc 94, 2) := by decide +kernel
theorem dX7_count_232 : decode cX7_count 232 = .ok (.ireturn, 1) := by decide +kernel
theorem dX7_undo_0 : decode cX7_undo 0 = .ok (.aload_n 0, 1) := by decide +kernel
theorem dX7_undo_1 : decode cX7_undo 1 = .ok (.getfield 22, 3) := by decide +kernel
theorem dX7_undo_4 : decode cX7_undo 4 = .ok (.invokevirtual 164, 3) := by decide +kernel
theorem dX7_undo_7 : decode cX7_undo 7 = .ok (.ifCond .ne 6, 3) := by decide +kernel
theorem dX7_undo_10 : decode cX7_undo 10 = .ok (.ldc 170, 2) := by decide +kernel
theorem dX7_undo_12 : decode cX7_undo 12 = .ok (.ireturn, 1) := by decide +kernel
theorem dX7_undo_13 : decode cX7_undo 13 = .ok (.aload_n 0, 1) := by decide +kernel
theorem dX7_undo_14 : decode cX7_undo 14 = .ok (.getfield 22, 3) := by decide +kernel
theorem dX7_undo_17 : decode cX7_undo 17 = .ok (.aload_n 0, 1) := by decide +kernel
theorem dX7_undo_18 : decode cX7_undo 18 = .ok (.getfield 10, 3) := by decide +kernel
theorem dX7_undo_21 : decode cX7_undo 21 = .ok (.invokevirtual 171, 3) := by decide +kernel
theorem dX7_undo_24 : decode cX7_undo 24 = .ok (.aload_n 0, 1) := by decide +kernel
theorem dX7_undo_25 : decode cX7_undo 25 = .ok (.getfield 22, 3) := by decide +kernel
theorem dX7_undo_28 : decode cX7_undo 28 = .ok (.invokevirtual 164, 3) := by decide +kernel
theorem dX7_undo_31 : decode cX7_undo 31 = .ok (.ireturn, 1) := by decide +kernel
theorem dX7_type_0 : decode cX7_type 0 = .ok (.iload_n 1, 1) := by decide +kernel
theorem dX7_type_1 : decode cX7_type 1 = .ok (.bipush 32, 2) := by decide +kernel
theorem dX7_type_3 : decode cX7_type 3 = .ok (.if_icmp .lt 9, 3) := by decide +kernel
theorem dX7_type_6 : decode cX7_type 6 = .ok (.iload_n 1, 1) := by decide +kernel
theorem dX7_type_7 : decode cX7_type 7 = .ok (.bipush 126, 2) := by decide +kernel
theorem dX7_type_9 : decode cX7_type 9 = .ok (.if_icmp .le 6, 3) := by decide +kernel
theorem dX7_type_12 : decode cX7_type 12 = .ok (.ldc 94, 2) := by decide +kernel
theorem dX7_type_14 : decode cX7_type 14 = .ok (.ireturn, 1) := by decide +kernel
theorem dX7_type_15 : decode cX7_type 15 = .ok (.aload_n 0, 1) := by decide +kernel
theorem dX7_type_16 : decode cX7_type 16 = .ok (.getfield 29, 3) := by decide +kernel
theorem dX7_type_19 : decode cX7_type 19 = .ok (.invokevirtual 167, 3) := by decide +kernel
theorem dX7_type_22 : decode cX7_type 22 = .ok (.bipush 60, 2) := by decide +kernel
theorem dX7_type_24 : decode cX7_type 24 = .ok (.if_icmp .lt 6, 3) := by decide +kernel
theorem dX7_type_27 : decode cX7_type 27 = .ok (.ldc 175, 2) := by decide +kernel
theorem dX7_type_29 : decode cX7_type 29 = .ok (.ireturn, 1) := by decide +kernel
theorem dX7_type_30 : decode cX7_type 30 = .ok (.aload_n 0, 1) := by decide +kernel
theorem dX7_type_31 : decode cX7_type 31 = .ok (.getfield 29, 3) := by decide +kernel
theorem dX7_type_34 : decode cX7_type 34 = .ok (.iload_n 1, 1) := by decide +kernel
theorem dX7_type_35 : decode cX7_type 35 = .ok (.i2c, 1) := by decide +kernel
theorem dX7_type_36 : decode cX7_type 36 = .ok (.invokevirtual 176, 3) := by decide +kernel
theorem dX7_type_39 : decode cX7_type 39 = .ok (.aload_n 0, 1) := by decide +kernel
theorem dX7_type_40 : decode cX7_type 40 = .ok (.getfield 29, 3) := by decide +kernel
theorem dX7_type_43 : decode cX7_type 43 = .ok (.invokevirtual 167, 3) := by decide +kernel
theorem dX7_type_46 : decode cX7_type 46 = .ok (.ireturn, 1) := by decide +kernel
theorem dX7_clearText_0 : decode cX7_clearText 0 = .ok (.aload_n 0, 1) := by decide +kernel
theorem dX7_clearText_1 : decode cX7_clearText 1 = .ok (.getfield 29, 3) := by decide +kernel
theorem dX7_clearText_4 : decode cX7_clearText 4 = .ok (.invokevirtual 167, 3) := by decide +kernel
theorem dX7_clearText_7 : decode cX7_clearText 7 = .ok (.istore_n 1, 1) := by decide +kernel
theorem dX7_clearText_8 : decode cX7_clearText 8 = .ok (.aload_n 0, 1) := by decide +kernel
theorem dX7_clearText_9 : decode cX7_clearText 9 = .ok (.getfield 29, 3) := by decide +kernel
theorem dX7_clearText_12 : decode cX7_clearText 12 = .ok (.invokevirtual 180, 3) := by decide +kernel
theorem dX7_clearText_15 : decode cX7_clearText 15 = .ok (.iload_n 1, 1) := by decide +kernel
theorem dX7_clearText_16 : decode cX7_clearText 16 = .ok (.ireturn, 1) := by decide +kernel
theorem dX7_fault_0 : decode cX7_fault 0 = .ok (.iload_n 1, 1) := by decide +kernel
theorem dX7_fault_1 : decode cX7_fault 1 = .ok (.ifCond .lt 8, 3) := by decide +kernel
theorem dX7_fault_4 : decode cX7_fault 4 = .ok (.iload_n 1, 1) := by decide +kernel
theorem dX7_fault_5 : decode cX7_fault 5 = .ok (.iconst 2, 1) := by decide +kernel
theorem dX7_fault_6 : decode cX7_fault 6 = .ok (.if_icmp .le 6, 3) := by decide +kernel
theorem dX7_fault_9 : decode cX7_fault 9 = .ok (.ldc 94, 2) := by decide +kernel
theorem dX7_fault_11 : decode cX7_fault 11 = .ok (.ireturn, 1) := by decide +kernel
theorem dX7_fault_12 : decode cX7_fault 12 = .ok (.aload_n 0, 1) := by decide +kernel
theorem dX7_fault_13 : decode cX7_fault 13 = .ok (.getfield 36, 3) := by decide +kernel
theorem dX7_fault_16 : decode cX7_fault 16 = .ok (.aload_n 0, 1) := by decide +kernel
theorem dX7_fault_17 : decode cX7_fault 17 = .ok (.getfield 29, 3) := by decide +kernel
theorem dX7_fault_20 : decode cX7_fault 20 = .ok (.aload_n 0, 1) := by decide +kernel
theorem dX7_fault_21 : decode cX7_fault 21 = .ok (.invokevirtual 47, 3) := by decide +kernel
theorem dX7_fault_24 : decode cX7_fault 24 = .ok (.invokevirtual 183, 3) := by decide +kernel
theorem dX7_fault_27 : decode cX7_fault 27 = .ok (.aload_n 0, 1) := by decide +kernel
theorem dX7_fault_28 : decode cX7_fault 28 = .ok (.getfield 36, 3) := by decide +kernel
theorem dX7_fault_31 : decode cX7_fault 31 = .ok (.invokevirtual 187, 3) := by decide +kernel
theorem dX7_fault_34 : decode cX7_fault 34 = .ok (.ifCond .ne 6, 3) := by decide +kernel
theorem dX7_fault_37 : decode cX7_fault 37 = .ok (.ldc 110, 2) := by decide +kernel
theorem dX7_fault_39 : decode cX7_fault 39 = .ok (.ireturn, 1) := by decide +kernel
theorem dX7_fault_40 : decode cX7_fault 40 = .ok (.iload_n 1, 1) := by decide +kernel
theorem dX7_fault_41 : decode cX7_fault 41 = .ok (.lookupswitch 43 #[(0, 27), (1, 35)], 27) := by decide +kernel
theorem dX7_fault_68 : decode cX7_fault 68 = .ok (.aload_n 0, 1) := by decide +kernel
theorem dX7_fault_69 : decode cX7_fault 69 = .ok (.getfield 36, 3) := by decide +kernel
theorem dX7_fault_72 : decode cX7_fault 72 = .ok (.invokevirtual 190, 3) := by decide +kernel
theorem dX7_fault_75 : decode cX7_fault 75 = .ok (.ireturn, 1) := by decide +kernel
theorem dX7_fault_76 : decode cX7_fault 76 = .ok (.aload_n 0, 1) := by decide +kernel
theorem dX7_fault_77 : decode cX7_fault 77 = .ok (.getfield 36, 3) := by decide +kernel
theorem dX7_fault_80 : decode cX7_fault 80 = .ok (.invokevirtual 187, 3) := by decide +kernel
theorem dX7_fault_83 : decode cX7_fault 83 = .ok (.ireturn, 1) := by decide +kernel
theorem dX7_fault_84 : decode cX7_fault 84 = .ok (.aload_n 0, 1) := by decide +kernel
theorem dX7_fault_85 : decode cX7_fault 85 = .ok (.getfield 36, 3) := by decide +kernel
theorem dX7_fault_88 : decode cX7_fault 88 = .ok (.invokevirtual 187, 3) := by decide +kernel
theorem dX7_fault_91 : decode cX7_fault 91 = .ok (.iconst 1, 1) := by decide +kernel
theorem dX7_fault_92 : decode cX7_fault 92 = .ok (.if_icmp .ne 13, 3) := by decide +kernel
theorem dX7_fault_95 : decode cX7_fault 95 = .ok (.aload_n 0, 1) := by decide +kernel
theorem dX7_fault_96 : decode cX7_fault 96 = .ok (.getfield 36, 3) := by decide +kernel
theorem dX7_fault_99 : decode cX7_fault 99 = .ok (.invokevirtual 193, 3) := by decide +kernel
theorem dX7_fault_102 : decode cX7_fault 102 = .ok (.goto 5, 3) := by decide +kernel
theorem dX7_fault_105 : decode cX7_fault 105 = .ok (.ldc 110, 2) := by decide +kernel
theorem dX7_fault_107 : decode cX7_fault 107 = .ok (.ireturn, 1) := by decide +kernel
theorem dX7_play_0 : decode cX7_play 0 = .ok (.aload_n 0, 1) := by decide +kernel
theorem dX7_play_1 : decode cX7_play 1 = .ok (.getfield 36, 3) := by decide +kernel
theorem dX7_play_4 : decode cX7_play 4 = .ok (.aload_n 0, 1) := by decide +kernel
theorem dX7_play_5 : decode cX7_play 5 = .ok (.getfield 29, 3) := by decide +kernel
theorem dX7_play_8 : decode cX7_play 8 = .ok (.aload_n 0, 1) := by decide +kernel
theorem dX7_play_9 : decode cX7_play 9 = .ok (.invokevirtual 47, 3) := by decide +kernel
theorem dX7_play_12 : decode cX7_play 12 = .ok (.invokevirtual 183, 3) := by decide +kernel
theorem dX7_play_15 : decode cX7_play 15 = .ok (.aload_n 0, 1) := by decide +kernel
theorem dX7_play_16 : decode cX7_play 16 = .ok (.aload_n 0, 1) := by decide +kernel
theorem dX7_play_17 : decode cX7_play 17 = .ok (.getfield 36, 3) := by decide +kernel
theorem dX7_play_20 : decode cX7_play 20 = .ok (.invokevirtual 187, 3) := by decide +kernel
theorem dX7_play_23 : decode cX7_play 23 = .ok (.ifCond .ne 13, 3) := by decide +kernel
theorem dX7_play_26 : decode cX7_play 26 = .ok (.aload_n 0, 1) := by decide +kernel
theorem dX7_play_27 : decode cX7_play 27 = .ok (.getfield 36, 3) := by decide +kernel
theorem dX7_play_30 : decode cX7_play 30 = .ok (.invokevirtual 196, 3) := by decide +kernel
theorem dX7_play_33 : decode cX7_play 33 = .ok (.goto 5, 3) := by decide +kernel
theorem dX7_play_36 : decode cX7_play 36 = .ok (.ldc 170, 2) := by decide +kernel
theorem dX7_play_38 : decode cX7_play 38 = .ok (.invokevirtual 57, 3) := by decide +kernel
theorem dX7_play_41 : decode cX7_play 41 = .ok (.ireturn, 1) := by decide +kernel
theorem dX7_isError_0 : decode cX7_isError 0 = .ok (.iload_n 0, 1) := by decide +kernel
theorem dX7_isError_1 : decode cX7_isError 1 = .ok (.ifCond .ge 7, 3) := by decide +kernel
theorem dX7_isError_4 : decode cX7_isError 4 = .ok (.iconst 1, 1) := by decide +kernel
theorem dX7_isError_5 : decode cX7_isError 5 = .ok (.goto 4, 3) := by decide +kernel
theorem dX7_isError_8 : decode cX7_isError 8 = .ok (.iconst 0, 1) := by decide +kernel
theorem dX7_isError_9 : decode cX7_isError 9 = .ok (.ireturn, 1) := by decide +kernel
theorem dX7_freshTrial_0 : decode cX7_freshTrial 0 = .ok (.aload_n 0, 1) := by decide +kernel
theorem dX7_freshTrial_1 : decode cX7_freshTrial 1 = .ok (.getfield 16, 3) := by decide +kernel
theorem dX7_freshTrial_4 : decode cX7_freshTrial 4 = .ok (.aload_n 0, 1) := by decide +kernel
theorem dX7_freshTrial_5 : decode cX7_freshTrial 5 = .ok (.getfield 10, 3) := by decide +kernel
theorem dX7_freshTrial_8 : decode cX7_freshTrial 8 = .ok (.invokevirtual 199, 3) := by decide +kernel
theorem dX7_freshTrial_11 : decode cX7_freshTrial 11 = .ok (.aload_n 0, 1) := by decide +kernel
theorem dX7_freshTrial_12 : decode cX7_freshTrial 12 = .ok (.getfield 16, 3) := by decide +kernel
theorem dX7_freshTrial_15 : decode cX7_freshTrial 15 = .ok (.areturn, 1) := by decide +kernel
theorem dX7_settle_0 : decode cX7_settle 0 = .ok (.iload_n 1, 1) := by decide +kernel
theorem dX7_settle_1 : decode cX7_settle 1 = .ok (.invokestatic 67, 3) := by decide +kernel
theorem dX7_settle_4 : decode cX7_settle 4 = .ok (.ifCond .ne 25, 3) := by decide +kernel
theorem dX7_settle_7 : decode cX7_settle 7 = .ok (.aload_n 0, 1) := by decide +kernel
theorem dX7_settle_8 : decode cX7_settle 8 = .ok (.getfield 22, 3) := by decide +kernel
theorem dX7_settle_11 : decode cX7_settle 11 = .ok (.aload_n 0, 1) := by decide +kernel
theorem dX7_settle_12 : decode cX7_settle 12 = .ok (.getfield 10, 3) := by decide +kernel
theorem dX7_settle_15 : decode cX7_settle 15 = .ok (.invokevirtual 202, 3) := by decide +kernel
theorem dX7_settle_18 : decode cX7_settle 18 = .ok (.aload_n 0, 1) := by decide +kernel
theorem dX7_settle_19 : decode cX7_settle 19 = .ok (.getfield 10, 3) := by decide +kernel
theorem dX7_settle_22 : decode cX7_settle 22 = .ok (.aload_n 0, 1) := by decide +kernel
theorem dX7_settle_23 : decode cX7_settle 23 = .ok (.getfield 16, 3) := by decide +kernel
theorem dX7_settle_26 : decode cX7_settle 26 = .ok (.invokevirtual 199, 3) := by decide +kernel
theorem dX7_settle_29 : decode cX7_settle 29 = .ok (.iload_n 1, 1) := by decide +kernel
theorem dX7_settle_30 : decode cX7_settle 30 = .ok (.ireturn, 1) := by decide +kernel
theorem dX7_placeMark_0 : decode cX7_placeMark 0 = .ok (.aload_n 0, 1) := by decide +kernel
theorem dX7_placeMark_1 : decode cX7_placeMark 1 = .ok (.getfield 10, 3) := by decide +kernel
theorem dX7_placeMark_4 : decode cX7_placeMark 4 = .ok (.iload_n 1, 1) := by decide +kernel
theorem dX7_placeMark_5 : decode cX7_placeMark 5 = .ok (.invokevirtual 205, 3) := by decide +kernel
theorem dX7_placeMark_8 : decode cX7_placeMark 8 = .ok (.ifCond .eq 5, 3) := by decide +kernel
theorem dX7_placeMark_11 : decode cX7_placeMark 11 = .ok (.iconst 1, 1) := by decide +kernel
theorem dX7_placeMark_12 : decode cX7_placeMark 12 = .ok (.ireturn, 1) := by decide +kernel
theorem dX7_placeMark_13 : decode cX7_placeMark 13 = .ok (.aload_n 0, 1) := by decide +kernel
theorem dX7_placeMark_14 : decode cX7_placeMark 14 = .ok (.getfield 10, 3) := by decide +kernel
theorem dX7_placeMark_17 : decode cX7_placeMark 17 = .ok (.iload_n 1, 1) := by decide +kernel
theorem dX7_placeMark_18 : decode cX7_placeMark 18 = .ok (.invokevirtual 208, 3) := by decide +kernel
theorem dX7_placeMark_21 : decode cX7_placeMark 21 = .ok (.ifCond .eq 7, 3) := by decide +kernel
theorem dX7_placeMark_24 : decode cX7_placeMark 24 = .ok (.iconst 2, 1) := by decide +kernel
theorem dX7_placeMark_25 : decode cX7_placeMark 25 = .ok (.goto 4, 3) := by decide +kernel
theorem dX7_placeMark_28 : decode cX7_placeMark 28 = .ok (.iconst 0, 1) := by decide +kernel
theorem dX7_placeMark_29 : decode cX7_placeMark 29 = .ok (.ireturn, 1) := by decide +kernel
theorem dX7_heightBehindTen_0 : decode cX7_heightBehindTen 0 = .ok (.iload_n 1, 1) := by decide +kernel
theorem dX7_heightBehindTen_1 : decode cX7_heightBehindTen 1 = .ok (.bipush 10, 2) := by decide +kernel
theorem dX7_heightBehindTen_3 : decode cX7_heightBehindTen 3 = .ok (.if_icmp .lt 14, 3) := by decide +kernel
theorem dX7_heightBehindTen_6 : decode cX7_heightBehindTen 6 = .ok (.aload_n 0, 1) := by decide +kernel
theorem dX7_heightBehindTen_7 : decode cX7_heightBehindTen 7 = .ok (.iload_n 1, 1) := by decide +kernel
theorem dX7_heightBehindTen_8 : decode cX7_heightBehindTen 8 = .ok (.bipush 10, 2) := by decide +kernel
theorem dX7_heightBehindTen_10 : decode cX7_heightBehindTen 10 = .ok (.isub, 1) := by decide +kernel
theorem dX7_heightBehindTen_11 : decode cX7_heightBehindTen 11 = .ok (.invokevirtual 91, 3) := by decide +kernel
theorem dX7_heightBehindTen_14 : decode cX7_heightBehindTen 14 = .ok (.ifCond .ne 6, 3) := by decide +kernel
theorem dX7_heightBehindTen_17 : decode cX7_heightBehindTen 17 = .ok (.ldc 94, 2) := by decide +kernel
theorem dX7_heightBehindTen_19 : decode cX7_heightBehindTen 19 = .ok (.ireturn, 1) := by decide +kernel
theorem dX7_heightBehindTen_20 : decode cX7_heightBehindTen 20 = .ok (.aload_n 0, 1) := by decide +kernel
theorem dX7_heightBehindTen_21 : decode cX7_heightBehindTen 21 = .ok (.iload_n 1, 1) := by decide +kernel
theorem dX7_heightBehindTen_22 : decode cX7_heightBehindTen 22 = .ok (.bipush 10, 2) := by decide +kernel
theorem dX7_heightBehindTen_24 : decode cX7_heightBehindTen 24 = .ok (.isub, 1) := by decide +kernel
theorem dX7_heightBehindTen_25 : decode cX7_heightBehindTen 25 = .ok (.iconst 0, 1) := by decide +kernel
theorem dX7_heightBehindTen_26 : decode cX7_heightBehindTen 26 = .ok (.invokevirtual 95, 3) := by decide +kernel
theorem dX7_heightBehindTen_29 : decode cX7_heightBehindTen 29 = .ok (.ireturn, 1) := by decide +kernel
theorem dX7_bitOf_0 : decode cX7_bitOf 0 = .ok (.iconst 1, 1) := by decide +kernel
theorem dX7_bitOf_1 : decode cX7_bitOf 1 = .ok (.iload_n 0, 1) := by decide +kernel
theorem dX7_bitOf_2 : decode cX7_bitOf 2 = .ok (.ishl, 1) := by decide +kernel
theorem dX7_bitOf_3 : decode cX7_bitOf 3 = .ok (.ireturn, 1) := by decide +kernel
