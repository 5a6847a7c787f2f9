/-! decode rows, printed -/
theorem dJ0_length_8abf5_0 : decode cJ0_length_8abf5 0 = .ok (.aload_n 0, 1) := by decide +kernel
theorem dJ0_length_8abf5_1 : decode cJ0_length_8abf5 1 = .ok (.getfield 9, 3) := by decide +kernel
theorem dJ0_length_8abf5_4 : decode cJ0_length_8abf5 4 = .ok (.arraylength, 1) := by decide +kernel
theorem dJ0_length_8abf5_5 : decode cJ0_length_8abf5 5 = .ok (.aload_n 0, 1) := by decide +kernel
theorem dJ0_length_8abf5_6 : decode cJ0_length_8abf5 6 = .ok (.invokevirtual 335, 3) := by decide +kernel
theorem dJ0_length_8abf5_9 : decode cJ0_length_8abf5 9 = .ok (.ishr, 1) := by decide +kernel
theorem dJ0_length_8abf5_10 : decode cJ0_length_8abf5 10 = .ok (.ireturn, 1) := by decide +kernel
theorem dJ0_charAt_5068e_0 : decode cJ0_charAt_5068e 0 = .ok (.aload_n 0, 1) := by decide +kernel
theorem dJ0_charAt_5068e_1 : decode cJ0_charAt_5068e 1 = .ok (.invokevirtual 492, 3) := by decide +kernel
theorem dJ0_charAt_5068e_4 : decode cJ0_charAt_5068e 4 = .ok (.ifCond .eq 12, 3) := by decide +kernel
theorem dJ0_charAt_5068e_7 : decode cJ0_charAt_5068e 7 = .ok (.aload_n 0, 1) := by decide +kernel
theorem dJ0_charAt_5068e_8 : decode cJ0_charAt_5068e 8 = .ok (.getfield 9, 3) := by decide +kernel
theorem dJ0_charAt_5068e_11 : decode cJ0_charAt_5068e 11 = .ok (.iload_n 1, 1) := by decide +kernel
theorem dJ0_charAt_5068e_12 : decode cJ0_charAt_5068e 12 = .ok (.invokestatic 495, 3) := by decide +kernel
theorem dJ0_charAt_5068e_15 : decode cJ0_charAt_5068e 15 = .ok (.ireturn, 1) := by decide +kernel
theorem dJ0_charAt_5068e_16 : decode cJ0_charAt_5068e 16 = .ok (.aload_n 0, 1) := by decide +kernel
theorem dJ0_charAt_5068e_17 : decode cJ0_charAt_5068e 17 = .ok (.getfield 9, 3) := by decide +kernel
theorem dJ0_charAt_5068e_20 : decode cJ0_charAt_5068e 20 = .ok (.iload_n 1, 1) := by decide +kernel
theorem dJ0_charAt_5068e_21 : decode cJ0_charAt_5068e 21 = .ok (.invokestatic 498, 3) := by decide +kernel
theorem dJ0_charAt_5068e_24 : decode cJ0_charAt_5068e 24 = .ok (.ireturn, 1) := by decide +kernel
theorem dJ0_coder_7d493_0 : decode cJ0_coder_7d493 0 = .ok (.getstatic 38, 3) := by decide +kernel
theorem dJ0_coder_7d493_3 : decode cJ0_coder_7d493 3 = .ok (.ifCond .eq 10, 3) := by decide +kernel
theorem dJ0_coder_7d493_6 : decode cJ0_coder_7d493 6 = .ok (.aload_n 0, 1) := by decide +kernel
theorem dJ0_coder_7d493_7 : decode cJ0_coder_7d493 7 = .ok (.getfield 15, 3) := by decide +kernel
theorem dJ0_coder_7d493_10 : decode cJ0_coder_7d493 10 = .ok (.goto 4, 3) := by decide +kernel
theorem dJ0_coder_7d493_13 : decode cJ0_coder_7d493 13 = .ok (.iconst 1, 1) := by decide +kernel
theorem dJ0_coder_7d493_14 : decode cJ0_coder_7d493 14 = .ok (.ireturn, 1) := by decide +kernel
theorem dJ0_isLatin1_aae02_0 : decode cJ0_isLatin1_aae02 0 = .ok (.getstatic 38, 3) := by decide +kernel
theorem dJ0_isLatin1_aae02_3 : decode cJ0_isLatin1_aae02 3 = .ok (.ifCond .eq 14, 3) := by decide +kernel
theorem dJ0_isLatin1_aae02_6 : decode cJ0_isLatin1_aae02 6 = .ok (.aload_n 0, 1) := by decide +kernel
theorem dJ0_isLatin1_aae02_7 : decode cJ0_isLatin1_aae02 7 = .ok (.getfield 15, 3) := by decide +kernel
theorem dJ0_isLatin1_aae02_10 : decode cJ0_isLatin1_aae02 10 = .ok (.ifCond .ne 7, 3) := by decide +kernel
theorem dJ0_isLatin1_aae02_13 : decode cJ0_isLatin1_aae02 13 = .ok (.iconst 1, 1) := by decide +kernel
theorem dJ0_isLatin1_aae02_14 : decode cJ0_isLatin1_aae02 14 = .ok (.goto 4, 3) := by decide +kernel
theorem dJ0_isLatin1_aae02_17 : decode cJ0_isLatin1_aae02 17 = .ok (.iconst 0, 1) := by decide +kernel
theorem dJ0_isLatin1_aae02_18 : decode cJ0_isLatin1_aae02 18 = .ok (.ireturn, 1) := by decide +kernel
theorem dJ0_checkIndex_df160_0 : decode cJ0_checkIndex_df160 0 = .ok (.iload_n 0, 1) := by decide +kernel
theorem dJ0_checkIndex_df160_1 : decode cJ0_checkIndex_df160 1 = .ok (.iload_n 1, 1) := by decide +kernel
theorem dJ0_checkIndex_df160_2 : decode cJ0_checkIndex_df160 2 = .ok (.getstatic 1053, 3) := by decide +kernel
theorem dJ0_checkIndex_df160_5 : decode cJ0_checkIndex_df160 5 = .ok (.invokestatic 1059, 3) := by decide +kernel
theorem dJ0_checkIndex_df160_8 : decode cJ0_checkIndex_df160 8 = .ok (.pop, 1) := by decide +kernel
theorem dJ0_checkIndex_df160_9 : decode cJ0_checkIndex_df160 9 = .ok (.return_, 1) := by decide +kernel
theorem dJ1_charAt_3b067_0 : decode cJ1_charAt_3b067 0 = .ok (.iload_n 1, 1) := by decide +kernel
theorem dJ1_charAt_3b067_1 : decode cJ1_charAt_3b067 1 = .ok (.aload_n 0, 1) := by decide +kernel
theorem dJ1_charAt_3b067_2 : decode cJ1_charAt_3b067 2 = .ok (.arraylength, 1) := by decide +kernel
theorem dJ1_charAt_3b067_3 : decode cJ1_charAt_3b067 3 = .ok (.invokestatic 9, 3) := by decide +kernel
theorem dJ1_charAt_3b067_6 : decode cJ1_charAt_3b067 6 = .ok (.aload_n 0, 1) := by decide +kernel
theorem dJ1_charAt_3b067_7 : decode cJ1_charAt_3b067 7 = .ok (.iload_n 1, 1) := by decide +kernel
theorem dJ1_charAt_3b067_8 : decode cJ1_charAt_3b067 8 = .ok (.baload, 1) := by decide +kernel
theorem dJ1_charAt_3b067_9 : decode cJ1_charAt_3b067 9 = .ok (.sipush 255, 3) := by decide +kernel
theorem dJ1_charAt_3b067_12 : decode cJ1_charAt_3b067 12 = .ok (.iand, 1) := by decide +kernel
theorem dJ1_charAt_3b067_13 : decode cJ1_charAt_3b067 13 = .ok (.i2c, 1) := by decide +kernel
theorem dJ1_charAt_3b067_14 : decode cJ1_charAt_3b067 14 = .ok (.ireturn, 1) := by decide +kernel
theorem dJ2_getChar_3b067_0 : decode cJ2_getChar_3b067 0 = .ok (.getstatic 44, 3) := by decide +kernel
theorem dJ2_getChar_3b067_3 : decode cJ2_getChar_3b067 3 = .ok (.ifCond .ne 25, 3) := by decide +kernel
theorem dJ2_getChar_3b067_6 : decode cJ2_getChar_3b067 6 = .ok (.iload_n 1, 1) := by decide +kernel
theorem dJ2_getChar_3b067_7 : decode cJ2_getChar_3b067 7 = .ok (.ifCond .lt 11, 3) := by decide +kernel
theorem dJ2_getChar_3b067_10 : decode cJ2_getChar_3b067 10 = .ok (.iload_n 1, 1) := by decide +kernel
theorem dJ2_getChar_3b067_11 : decode cJ2_getChar_3b067 11 = .ok (.aload_n 0, 1) := by decide +kernel
theorem dJ2_getChar_3b067_12 : decode cJ2_getChar_3b067 12 = .ok (.invokestatic 48, 3) := by decide +kernel
theorem dJ2_getChar_3b067_15 : decode cJ2_getChar_3b067 15 = .ok (.if_icmp .lt 13, 3) := by decide +kernel
theorem dJ2_getChar_3b067_18 : decode cJ2_getChar_3b067 18 = .ok (.new 52, 3) := by decide +kernel
theorem dJ2_getChar_3b067_21 : decode cJ2_getChar_3b067 21 = .ok (.dup, 1) := by decide +kernel
theorem dJ2_getChar_3b067_22 : decode cJ2_getChar_3b067 22 = .ok (.ldc 54, 2) := by decide +kernel
theorem dJ2_getChar_3b067_24 : decode cJ2_getChar_3b067 24 = .ok (.invokespecial 56, 3) := by decide +kernel
theorem dJ2_getChar_3b067_27 : decode cJ2_getChar_3b067 27 = .ok (.athrow, 1) := by decide +kernel
theorem dJ2_getChar_3b067_28 : decode cJ2_getChar_3b067 28 = .ok (.iload_n 1, 1) := by decide +kernel
theorem dJ2_getChar_3b067_29 : decode cJ2_getChar_3b067 29 = .ok (.iconst 1, 1) := by decide +kernel
theorem dJ2_getChar_3b067_30 : decode cJ2_getChar_3b067 30 = .ok (.ishl, 1) := by decide +kernel
theorem dJ2_getChar_3b067_31 : decode cJ2_getChar_3b067 31 = .ok (.istore_n 1, 1) := by decide +kernel
theorem dJ2_getChar_3b067_32 : decode cJ2_getChar_3b067 32 = .ok (.aload_n 0, 1) := by decide +kernel
theorem dJ2_getChar_3b067_33 : decode cJ2_getChar_3b067 33 = .ok (.iload_n 1, 1) := by decide +kernel
theorem dJ2_getChar_3b067_34 : decode cJ2_getChar_3b067 34 = .ok (.iinc 1 1, 3) := by decide +kernel
theorem dJ2_getChar_3b067_37 : decode cJ2_getChar_3b067 37 = .ok (.baload, 1) := by decide +kernel
theorem dJ2_getChar_3b067_38 : decode cJ2_getChar_3b067 38 = .ok (.sipush 255, 3) := by decide +kernel
theorem dJ2_getChar_3b067_41 : decode cJ2_getChar_3b067 41 = .ok (.iand, 1) := by decide +kernel
theorem dJ2_getChar_3b067_42 : decode cJ2_getChar_3b067 42 = .ok (.getstatic 59, 3) := by decide +kernel
theorem dJ2_getChar_3b067_45 : decode cJ2_getChar_3b067 45 = .ok (.ishl, 1) := by decide +kernel
theorem dJ2_getChar_3b067_46 : decode cJ2_getChar_3b067 46 = .ok (.aload_n 0, 1) := by decide +kernel
theorem dJ2_getChar_3b067_47 : decode cJ2_getChar_3b067 47 = .ok (.iload_n 1, 1) := by decide +kernel
theorem dJ2_getChar_3b067_48 : decode cJ2_getChar_3b067 48 = .ok (.baload, 1) := by decide +kernel
theorem dJ2_getChar_3b067_49 : decode cJ2_getChar_3b067 49 = .ok (.sipush 255, 3) := by decide +kernel
theorem dJ2_getChar_3b067_52 : decode cJ2_getChar_3b067 52 = .ok (.iand, 1) := by decide +kernel
theorem dJ2_getChar_3b067_53 : decode cJ2_getChar_3b067 53 = .ok (.getstatic 63, 3) := by decide +kernel
theorem dJ2_getChar_3b067_56 : decode cJ2_getChar_3b067 56 = .ok (.ishl, 1) := by decide +kernel
theorem dJ2_getChar_3b067_57 : decode cJ2_getChar_3b067 57 = .ok (.ior, 1) := by decide +kernel
theorem dJ2_getChar_3b067_58 : decode cJ2_getChar_3b067 58 = .ok (.i2c, 1) := by decide +kernel
theorem dJ2_getChar_3b067_59 : decode cJ2_getChar_3b067 59 = .ok (.ireturn, 1) := by decide +kernel
theorem dJ2_length_9d52b_0 : decode cJ2_length_9d52b 0 = .ok (.aload_n 0, 1) := by decide +kernel
theorem dJ2_length_9d52b_1 : decode cJ2_length_9d52b 1 = .ok (.arraylength, 1) := by decide +kernel
theorem dJ2_length_9d52b_2 : decode cJ2_length_9d52b 2 = .ok (.iconst 1, 1) := by decide +kernel
theorem dJ2_length_9d52b_3 : decode cJ2_length_9d52b 3 = .ok (.ishr, 1) := by decide +kernel
theorem dJ2_length_9d52b_4 : decode cJ2_length_9d52b 4 = .ok (.ireturn, 1) := by decide +kernel
theorem dJ2_charAt_3b067_0 : decode cJ2_charAt_3b067 0 = .ok (.iload_n 1, 1) := by decide +kernel
theorem dJ2_charAt_3b067_1 : decode cJ2_charAt_3b067 1 = .ok (.aload_n 0, 1) := by decide +kernel
theorem dJ2_charAt_3b067_2 : decode cJ2_charAt_3b067 2 = .ok (.invokestatic 67, 3) := by decide +kernel
theorem dJ2_charAt_3b067_5 : decode cJ2_charAt_3b067 5 = .ok (.aload_n 0, 1) := by decide +kernel
theorem dJ2_charAt_3b067_6 : decode cJ2_charAt_3b067 6 = .ok (.iload_n 1, 1) := by decide +kernel
theorem dJ2_charAt_3b067_7 : decode cJ2_charAt_3b067 7 = .ok (.invokestatic 71, 3) := by decide +kernel
theorem dJ2_charAt_3b067_10 : decode cJ2_charAt_3b067 10 = .ok (.ireturn, 1) := by decide +kernel
theorem dJ2_checkIndex_2214a_0 : decode cJ2_checkIndex_2214a 0 = .ok (.iload_n 0, 1) := by decide +kernel
theorem dJ2_checkIndex_2214a_1 : decode cJ2_checkIndex_2214a 1 = .ok (.aload_n 1, 1) := by decide +kernel
theorem dJ2_checkIndex_2214a_2 : decode cJ2_checkIndex_2214a 2 = .ok (.invokestatic 48, 3) := by decide +kernel
theorem dJ2_checkIndex_2214a_5 : decode cJ2_checkIndex_2214a 5 = .ok (.invokestatic 414, 3) := by decide +kernel
theorem dJ2_checkIndex_2214a_8 : decode cJ2_checkIndex_2214a 8 = .ok (.return_, 1) := by decide +kernel
theorem dJ3_checkIndex_8e157_0 : decode cJ3_checkIndex_8e157 0 = .ok (.iload_n 0, 1) := by decide +kernel
theorem dJ3_checkIndex_8e157_1 : decode cJ3_checkIndex_8e157 1 = .ok (.ifCond .lt 8, 3) := by decide +kernel
theorem dJ3_checkIndex_8e157_4 : decode cJ3_checkIndex_8e157 4 = .ok (.iload_n 0, 1) := by decide +kernel
theorem dJ3_checkIndex_8e157_5 : decode cJ3_checkIndex_8e157 5 = .ok (.iload_n 1, 1) := by decide +kernel
theorem dJ3_checkIndex_8e157_6 : decode cJ3_checkIndex_8e157 6 = .ok (.if_icmp .lt 10, 3) := by decide +kernel
theorem dJ3_checkIndex_8e157_9 : decode cJ3_checkIndex_8e157 9 = .ok (.aload_n 2, 1) := by decide +kernel
theorem dJ3_checkIndex_8e157_10 : decode cJ3_checkIndex_8e157 10 = .ok (.iload_n 0, 1) := by decide +kernel
theorem dJ3_checkIndex_8e157_11 : decode cJ3_checkIndex_8e157 11 = .ok (.iload_n 1, 1) := by decide +kernel
theorem dJ3_checkIndex_8e157_12 : decode cJ3_checkIndex_8e157 12 = .ok (.invokestatic 95, 3) := by decide +kernel
theorem dJ3_checkIndex_8e157_15 : decode cJ3_checkIndex_8e157 15 = .ok (.athrow, 1) := by decide +kernel
theorem dJ3_checkIndex_8e157_16 : decode cJ3_checkIndex_8e157 16 = .ok (.iload_n 0, 1) := by decide +kernel
theorem dJ3_checkIndex_8e157_17 : decode cJ3_checkIndex_8e157 17 = .ok (.ireturn, 1) := by decide +kernel
theorem dJ7_fill_53178_0 : decode cJ7_fill_53178 0 = .ok (.iconst 0, 1) := by decide +kernel
theorem dJ7_fill_53178_1 : decode cJ7_fill_53178 1 = .ok (.istore_n 2, 1) := by decide +kernel
theorem dJ7_fill_53178_2 : decode cJ7_fill_53178 2 = .ok (.aload_n 0, 1) := by decide +kernel
theorem dJ7_fill_53178_3 : decode cJ7_fill_53178 3 = .ok (.arraylength, 1) := by decide +kernel
theorem dJ7_fill_53178_4 : decode cJ7_fill_53178 4 = .ok (.istore_n 3, 1) := by decide +kernel
theorem dJ7_fill_53178_5 : decode cJ7_fill_53178 5 = .ok (.iload_n 2, 1) := by decide +kernel
theorem dJ7_fill_53178_6 : decode cJ7_fill_53178 6 = .ok (.iload_n 3, 1) := by decide +kernel
theorem dJ7_fill_53178_7 : decode cJ7_fill_53178 7 = .ok (.if_icmp .ge 13, 3) := by decide +kernel
theorem dJ7_fill_53178_10 : decode cJ7_fill_53178 10 = .ok (.aload_n 0, 1) := by decide +kernel
theorem dJ7_fill_53178_11 : decode cJ7_fill_53178 11 = .ok (.iload_n 2, 1) := by decide +kernel
theorem dJ7_fill_53178_12 : decode cJ7_fill_53178 12 = .ok (.iload_n 1, 1) := by decide +kernel
theorem dJ7_fill_53178_13 : decode cJ7_fill_53178 13 = .ok (.iastore, 1) := by decide +kernel
theorem dJ7_fill_53178_14 : decode cJ7_fill_53178 14 = .ok (.iinc 2 1, 3) := by decide +kernel
theorem dJ7_fill_53178_17 : decode cJ7_fill_53178 17 = .ok (.goto (-12), 3) := by decide +kernel
theorem dJ7_fill_53178_20 : decode cJ7_fill_53178 20 = .ok (.return_, 1) := by decide +kernel
theorem dJ9_min_7cf53_0 : decode cJ9_min_7cf53 0 = .ok (.iload_n 0, 1) := by decide +kernel
theorem dJ9_min_7cf53_1 : decode cJ9_min_7cf53 1 = .ok (.iload_n 1, 1) := by decide +kernel
theorem dJ9_min_7cf53_2 : decode cJ9_min_7cf53 2 = .ok (.if_icmp .gt 7, 3) := by decide +kernel
theorem dJ9_min_7cf53_5 : decode cJ9_min_7cf53 5 = .ok (.iload_n 0, 1) := by decide +kernel
theorem dJ9_min_7cf53_6 : decode cJ9_min_7cf53 6 = .ok (.goto 4, 3) := by decide +kernel
theorem dJ9_min_7cf53_9 : decode cJ9_min_7cf53 9 = .ok (.iload_n 1, 1) := by decide +kernel
theorem dJ9_min_7cf53_10 : decode cJ9_min_7cf53 10 = .ok (.ireturn, 1) := by decide +kernel
theorem dX0_init_0 : decode cX0_init 0 = .ok (.aload_n 0, 1) := by decide +kernel
theorem dX0_init_1 : decode cX0_init 1 = .ok (.invokespecial 3, 3) := by decide +kernel
theorem dX0_init_4 : decode cX0_init 4 = .ok (.aload_n 0, 1) := by decide +kernel
theorem dX0_init_5 : decode cX0_init 5 = .ok (.bipush 8, 2) := by decide +kernel
theorem dX0_init_7 : decode cX0_init 7 = .ok (.anewarray 9, 3) := by decide +kernel
theorem dX0_init_10 : decode cX0_init 10 = .ok (.putfield 11, 3) := by decide +kernel
theorem dX0_init_13 : decode cX0_init 13 = .ok (.iconst 0, 1) := by decide +kernel
theorem dX0_init_14 : decode cX0_init 14 = .ok (.istore_n 3, 1) := by decide +kernel
theorem dX0_init_15 : decode cX0_init 15 = .ok (.iload_n 3, 1) := by decide +kernel
theorem dX0_init_16 : decode cX0_init 16 = .ok (.bipush 8, 2) := by decide +kernel
theorem dX0_init_18 : decode cX0_init 18 = .ok (.if_icmp .ge 24, 3) := by decide +kernel
theorem dX0_init_21 : decode cX0_init 21 = .ok (.aload_n 0, 1) := by decide +kernel
theorem dX0_init_22 : decode cX0_init 22 = .ok (.getfield 11, 3) := by decide +kernel
theorem dX0_init_25 : decode cX0_init 25 = .ok (.iload_n 3, 1) := by decide +kernel
theorem dX0_init_26 : decode cX0_init 26 = .ok (.new 9, 3) := by decide +kernel
theorem dX0_init_29 : decode cX0_init 29 = .ok (.dup, 1) := by decide +kernel
theorem dX0_init_30 : decode cX0_init 30 = .ok (.aload_n 1, 1) := by decide +kernel
theorem dX0_init_31 : decode cX0_init 31 = .ok (.aload_n 2, 1) := by decide +kernel
theorem dX0_init_32 : decode cX0_init 32 = .ok (.invokespecial 17, 3) := by decide +kernel
theorem dX0_init_35 : decode cX0_init 35 = .ok (.aastore, 1) := by decide +kernel
theorem dX0_init_36 : decode cX0_init 36 = .ok (.iinc 3 1, 3) := by decide +kernel
theorem dX0_init_39 : decode cX0_init 39 = .ok (.goto (-24), 3) := by decide +kernel
theorem dX0_init_42 : decode cX0_init 42 = .ok (.return_, 1) := by decide +kernel
theorem dX0_size_0 : decode cX0_size 0 = .ok (.aload_n 0, 1) := by decide +kernel
theorem dX0_size_1 : decode cX0_size 1 = .ok (.getfield 20, 3) := by decide +kernel
theorem dX0_size_4 : decode cX0_size 4 = .ok (.ireturn, 1) := by decide +kernel
theorem dX0_remember_0 : decode cX0_remember 0 = .ok (.aload_n 0, 1) := by decide +kernel
theorem dX0_remember_1 : decode cX0_remember 1 = .ok (.getfield 24, 3) := by decide +kernel
theorem dX0_remember_4 : decode cX0_remember 4 = .ok (.bipush 8, 2) := by decide +kernel
theorem dX0_remember_6 : decode cX0_remember 6 = .ok (.invokestatic 27, 3) := by decide +kernel
theorem dX0_remember_9 : decode cX0_remember 9 = .ok (.ifCond .eq 15, 3) := by decide +kernel
theorem dX0_remember_12 : decode cX0_remember 12 = .ok (.aload_n 0, 1) := by decide +kernel
theorem dX0_remember_13 : decode cX0_remember 13 = .ok (.getfield 11, 3) := by decide +kernel
theorem dX0_remember_16 : decode cX0_remember 16 = .ok (.aload_n 0, 1) := by decide +kernel
theorem dX0_remember_17 : decode cX0_remember 17 = .ok (.getfield 24, 3) := by decide +kernel
theorem dX0_remember_20 : decode cX0_remember 20 = .ok (.aaload, 1) := by decide +kernel
theorem dX0_remember_21 : decode cX0_remember 21 = .ok (.goto 4, 3) := by decide +kernel
theorem dX0_remember_24 : decode cX0_remember 24 = .ok (.aconst_null, 1) := by decide +kernel
theorem dX0_remember_25 : decode cX0_remember 25 = .ok (.astore_n 2, 1) := by decide +kernel
theorem dX0_remember_26 : decode cX0_remember 26 = .ok (.aload_n 2, 1) := by decide +kernel
theorem dX0_remember_27 : decode cX0_remember 27 = .ok (.ifnonnull 4, 3) := by decide +kernel
theorem dX0_remember_30 : decode cX0_remember 30 = .ok (.return_, 1) := by decide +kernel
theorem dX0_remember_31 : decode cX0_remember 31 = .ok (.aload_n 2, 1) := by decide +kernel
theorem dX0_remember_32 : decode cX0_remember 32 = .ok (.aload_n 1, 1) := by decide +kernel
theorem dX0_remember_33 : decode cX0_remember 33 = .ok (.invokevirtual 31, 3) := by decide +kernel
theorem dX0_remember_36 : decode cX0_remember 36 = .ok (.aload_n 0, 1) := by decide +kernel
theorem dX0_remember_37 : decode cX0_remember 37 = .ok (.aload_n 0, 1) := by decide +kernel
theorem dX0_remember_38 : decode cX0_remember 38 = .ok (.getfield 24, 3) := by decide +kernel
theorem dX0_remember_41 : decode cX0_remember 41 = .ok (.iconst 1, 1) := by decide +kernel
theorem dX0_remember_42 : decode cX0_remember 42 = .ok (.iadd, 1) := by decide +kernel
theorem dX0_remember_43 : decode cX0_remember 43 = .ok (.bipush 8, 2) := by decide +kernel
theorem dX0_remember_45 : decode cX0_remember 45 = .ok (.irem, 1) := by decide +kernel
theorem dX0_remember_46 : decode cX0_remember 46 = .ok (.putfield 24, 3) := by decide +kernel
theorem dX0_remember_49 : decode cX0_remember 49 = .ok (.aload_n 0, 1) := by decide +kernel
theorem dX0_remember_50 : decode cX0_remember 50 = .ok (.aload_n 0, 1) := by decide +kernel
theorem dX0_remember_51 : decode cX0_remember 51 = .ok (.getfield 20, 3) := by decide +kernel
theorem dX0_remember_54 : decode cX0_remember 54 = .ok (.iconst 1, 1) := by decide +kernel
theorem dX0_remember_55 : decode cX0_remember 55 = .ok (.iadd, 1) := by decide +kernel
theorem dX0_remember_56 : decode cX0_remember 56 = .ok (.bipush 8, 2) := by decide +kernel
theorem dX0_remember_58 : decode cX0_remember 58 = .ok (.invokestatic 35, 3) := by decide +kernel
theorem dX0_remember_61 : decode cX0_remember 61 = .ok (.putfield 20, 3) := by decide +kernel
theorem dX0_remember_64 : decode cX0_remember 64 = .ok (.return_, 1) := by decide +kernel
theorem dX0_takeBack_0 : decode cX0_takeBack 0 = .ok (.aload_n 0, 1) := by decide +kernel
theorem dX0_takeBack_1 : decode cX0_takeBack 1 = .ok (.getfield 24, 3) := by decide +kernel
theorem dX0_takeBack_4 : decode cX0_takeBack 4 = .ok (.bipush 8, 2) := by decide +kernel
theorem dX0_takeBack_6 : decode cX0_takeBack 6 = .ok (.iadd, 1) := by decide +kernel
theorem dX0_takeBack_7 : decode cX0_takeBack 7 = .ok (.iconst 1, 1) := by decide +kernel
theorem dX0_takeBack_8 : decode cX0_takeBack 8 = .ok (.isub, 1) := by decide +kernel
theorem dX0_takeBack_9 : decode cX0_takeBack 9 = .ok (.bipush 8, 2) := by decide +kernel
theorem dX0_takeBack_11 : decode cX0_takeBack 11 = .ok (.irem, 1) := by decide +kernel
theorem dX0_takeBack_12 : decode cX0_takeBack 12 = .ok (.istore_n 2, 1) := by decide +kernel
theorem dX0_takeBack_13 : decode cX0_takeBack 13 = .ok (.iload_n 2, 1) := by decide +kernel
theorem dX0_takeBack_14 : decode cX0_takeBack 14 = .ok (.bipush 8, 2) := by decide +kernel
theorem dX0_takeBack_16 : decode cX0_takeBack 16 = .ok (.invokestatic 27, 3) := by decide +kernel
theorem dX0_takeBack_19 : decode cX0_takeBack 19 = .ok (.ifCond .eq 12, 3) := by decide +kernel
theorem dX0_takeBack_22 : decode cX0_takeBack 22 = .ok (.aload_n 0, 1) := by decide +kernel
theorem dX0_takeBack_23 : decode cX0_takeBack 23 = .ok (.getfield 11, 3) := by decide +kernel
theorem dX0_takeBack_26 : decode cX0_takeBack 26 = .ok (.iload_n 2, 1) := by decide +kernel
theorem dX0_takeBack_27 : decode cX0_takeBack 27 = .ok (.aaload, 1) := by decide +kernel
theorem dX0_takeBack_28 : decode cX0_takeBack 28 = .ok (.goto 4, 3) := by decide +kernel
theorem dX0_takeBack_31 : decode cX0_takeBack 31 = .ok (.aconst_null, 1) := by decide +kernel
theorem dX0_takeBack_32 : decode cX0_takeBack 32 = .ok (.astore_n 3, 1) := by decide +kernel
theorem dX0_takeBack_33 : decode cX0_takeBack 33 = .ok (.aload_n 0, 1) := by decide +kernel
theorem dX0_takeBack_34 : decode cX0_takeBack 34 = .ok (.getfield 20, 3) := by decide +kernel
theorem dX0_takeBack_37 : decode cX0_takeBack 37 = .ok (.ifCond .eq 7, 3) := by decide +kernel
theorem dX0_takeBack_40 : decode cX0_takeBack 40 = .ok (.aload_n 3, 1) := by decide +kernel
theorem dX0_takeBack_41 : decode cX0_takeBack 41 = .ok (.ifnonnull 5, 3) := by decide +kernel
theorem dX0_takeBack_44 : decode cX0_takeBack 44 = .ok (.iconst 0, 1) := by decide +kernel
theorem dX0_takeBack_45 : decode cX0_takeBack 45 = .ok (.ireturn, 1) := by decide +kernel
theorem dX0_takeBack_46 : decode cX0_takeBack 46 = .ok (.aload_n 1, 1) := by decide +kernel
theorem dX0_takeBack_47 : decode cX0_takeBack 47 = .ok (.aload_n 3, 1) := by decide +kernel
theorem dX0_takeBack_48 : decode cX0_takeBack 48 = .ok (.invokevirtual 31, 3) := by decide +kernel
theorem dX0_takeBack_51 : decode cX0_takeBack 51 = .ok (.aload_n 0, 1) := by decide +kernel
theorem dX0_takeBack_52 : decode cX0_takeBack 52 = .ok (.iload_n 2, 1) := by decide +kernel
theorem dX0_takeBack_53 : decode cX0_takeBack 53 = .ok (.putfield 24, 3) := by decide +kernel
theorem dX0_takeBack_56 : decode cX0_takeBack 56 = .ok (.aload_n 0, 1) := by decide +kernel
theorem dX0_takeBack_57 : decode cX0_takeBack 57 = .ok (.dup, 1) := by decide +kernel
theorem dX0_takeBack_58 : decode cX0_takeBack 58 = .ok (.getfield 20, 3) := by decide +kernel
theorem dX0_takeBack_61 : decode cX0_takeBack 61 = .ok (.iconst 1, 1) := by decide +kernel
theorem dX0_takeBack_62 : decode cX0_takeBack 62 = .ok (.isub, 1) := by decide +kernel
theorem dX0_takeBack_63 : decode cX0_takeBack 63 = .ok (.putfield 20, 3) := by decide +kernel
theorem dX0_takeBack_66 : decode cX0_takeBack 66 = .ok (.iconst 1, 1) := by decide +kernel
theorem dX0_takeBack_67 : decode cX0_takeBack 67 = .ok (.ireturn, 1) := by decide +kernel
theorem dX1_init_0 : decode cX1_init 0 = .ok (.aload_n 0, 1) := by decide +kernel
theorem dX1_init_1 : decode cX1_init 1 = .ok (.invokespecial 3, 3) := by decide +kernel
theorem dX1_init_4 : decode cX1_init 4 = .ok (.aload_n 0, 1) := by decide +kernel
theorem dX1_init_5 : decode cX1_init 5 = .ok (.sipush 200, 3) := by decide +kernel
theorem dX1_init_8 : decode cX1_init 8 = .ok (.newarray .int, 2) := by decide +kernel
theorem dX1_init_10 : decode cX1_init 10 = .ok (.putfield 9, 3) := by decide +kernel
theorem dX1_init_13 : decode cX1_init 13 = .ok (.return_, 1) := by decide +kernel
theorem dX1_size_0 : decode cX1_size 0 = .ok (.aload_n 0, 1) := by decide +kernel
theorem dX1_size_1 : decode cX1_size 1 = .ok (.getfield 15, 3) := by decide +kernel
theorem dX1_size_4 : decode cX1_size 4 = .ok (.ireturn, 1) := by decide +kernel
theorem dX1_put_0 : decode cX1_put 0 = .ok (.aload_n 0, 1) := by decide +kernel
theorem dX1_put_1 : decode cX1_put 1 = .ok (.iconst 0, 1) := by decide +kernel
theorem dX1_put_2 : decode cX1_put 2 = .ok (.putfield 15, 3) := by decide +kernel
theorem dX1_put_5 : decode cX1_put 5 = .ok (.iconst 0, 1) := by decide +kernel
theorem dX1_put_6 : decode cX1_put 6 = .ok (.istore_n 2, 1) := by decide +kernel
theorem dX1_put_7 : decode cX1_put 7 = .ok (.iload_n 2, 1) := by decide +kernel
theorem dX1_put_8 : decode cX1_put 8 = .ok (.aload_n 1, 1) := by decide +kernel
theorem dX1_put_9 : decode cX1_put 9 = .ok (.invokevirtual 19, 3) := by decide +kernel
theorem dX1_put_12 : decode cX1_put 12 = .ok (.if_icmp .ge 18, 3) := by decide +kernel
theorem dX1_put_15 : decode cX1_put 15 = .ok (.aload_n 0, 1) := by decide +kernel
theorem dX1_put_16 : decode cX1_put 16 = .ok (.aload_n 1, 1) := by decide +kernel
theorem dX1_put_17 : decode cX1_put 17 = .ok (.iload_n 2, 1) := by decide +kernel
theorem dX1_put_18 : decode cX1_put 18 = .ok (.invokevirtual 24, 3) := by decide +kernel
theorem dX1_put_21 : decode cX1_put 21 = .ok (.invokevirtual 28, 3) := by decide +kernel
theorem dX1_put_24 : decode cX1_put 24 = .ok (.iinc 2 1, 3) := by decide +kernel
theorem dX1_put_27 : decode cX1_put 27 = .ok (.goto (-20), 3) := by decide +kernel
theorem dX1_put_30 : decode cX1_put 30 = .ok (.return_, 1) := by decide +kernel
theorem dX1_addFourBytes_0 : decode cX1_addFourBytes 0 = .ok (.aload_n 0, 1) := by decide +kernel
theorem dX1_addFourBytes_1 : decode cX1_addFourBytes 1 = .ok (.iload_n 1, 1) := by decide +kernel
theorem dX1_addFourBytes_2 : decode cX1_addFourBytes 2 = .ok (.bipush 24, 2) := by decide +kernel
theorem dX1_addFourBytes_4 : decode cX1_addFourBytes 4 = .ok (.iushr, 1) := by decide +kernel
theorem dX1_addFourBytes_5 : decode cX1_addFourBytes 5 = .ok (.invokevirtual 28, 3) := by decide +kernel
theorem dX1_addFourBytes_8 : decode cX1_addFourBytes 8 = .ok (.aload_n 0, 1) := by decide +kernel
theorem dX1_addFourBytes_9 : decode cX1_addFourBytes 9 = .ok (.iload_n 1, 1) := by decide +kernel
theorem dX1_addFourBytes_10 : decode cX1_addFourBytes 10 = .ok (.bipush 16, 2) := by decide +kernel
theorem dX1_addFourBytes_12 : decode cX1_addFourBytes 12 = .ok (.iushr, 1) := by decide +kernel
theorem dX1_addFourBytes_13 : decode cX1_addFourBytes 13 = .ok (.sipush 255, 3) := by decide +kernel
theorem dX1_addFourBytes_16 : decode cX1_addFourBytes 16 = .ok (.iand, 1) := by decide +kernel
theorem dX1_addFourBytes_17 : decode cX1_addFourBytes 17 = .ok (.invokevirtual 28, 3) := by decide +kernel
theorem dX1_addFourBytes_20 : decode cX1_addFourBytes 20 = .ok (.aload_n 0, 1) := by decide +kernel
theorem dX1_addFourBytes_21 : decode cX1_addFourBytes 21 = .ok (.iload_n 1, 1) := by decide +kernel
theorem dX1_addFourBytes_22 : decode cX1_addFourBytes 22 = .ok (.bipush 8, 2) := by decide +kernel
theorem dX1_addFourBytes_24 : decode cX1_addFourBytes 24 = .ok (.iushr, 1) := by decide +kernel
theorem dX1_addFourBytes_25 : decode cX1_addFourBytes 25 = .ok (.sipush 255, 3) := by decide +kernel
theorem dX1_addFourBytes_28 : decode cX1_addFourBytes 28 = .ok (.iand, 1) := by decide +kernel
theorem dX1_addFourBytes_29 : decode cX1_addFourBytes 29 = .ok (.invokevirtual 28, 3) := by decide +kernel
theorem dX1_addFourBytes_32 : decode cX1_addFourBytes 32 = .ok (.aload_n 0, 1) := by decide +kernel
theorem dX1_addFourBytes_33 : decode cX1_addFourBytes 33 = .ok (.iload_n 1, 1) := by decide +kernel
theorem dX1_addFourBytes_34 : decode cX1_addFourBytes 34 = .ok (.sipush 255, 3) := by decide +kernel
theorem dX1_addFourBytes_37 : decode cX1_addFourBytes 37 = .ok (.iand, 1) := by decide +kernel
theorem dX1_addFourBytes_38 : decode cX1_addFourBytes 38 = .ok (.invokevirtual 28, 3) := by decide +kernel
theorem dX1_addFourBytes_41 : decode cX1_addFourBytes 41 = .ok (.return_, 1) := by decide +kernel
theorem dX1_shorten_0 : decode cX1_shorten 0 = .ok (.aload_n 0, 1) := by decide +kernel
theorem dX1_shorten_1 : decode cX1_shorten 1 = .ok (.iload_n 1, 1) := by decide +kernel
theorem dX1_shorten_2 : decode cX1_shorten 2 = .ok (.putfield 15, 3) := by decide +kernel
theorem dX1_shorten_5 : decode cX1_shorten 5 = .ok (.return_, 1) := by decide +kernel
theorem dX1_value_0 : decode cX1_value 0 = .ok (.iload_n 1, 1) := by decide +kernel
theorem dX1_value_1 : decode cX1_value 1 = .ok (.aload_n 0, 1) := by decide +kernel
theorem dX1_value_2 : decode cX1_value 2 = .ok (.getfield 15, 3) := by decide +kernel
theorem dX1_value_5 : decode cX1_value 5 = .ok (.invokestatic 32, 3) := by decide +kernel
theorem dX1_value_8 : decode cX1_value 8 = .ok (.ifCond .eq 21, 3) := by decide +kernel
theorem dX1_value_11 : decode cX1_value 11 = .ok (.iload_n 1, 1) := by decide +kernel
theorem dX1_value_12 : decode cX1_value 12 = .ok (.aload_n 0, 1) := by decide +kernel
theorem dX1_value_13 : decode cX1_value 13 = .ok (.getfield 9, 3) := by decide +kernel
theorem dX1_value_16 : decode cX1_value 16 = .ok (.arraylength, 1) := by decide +kernel
theorem dX1_value_17 : decode cX1_value 17 = .ok (.if_icmp .ge 12, 3) := by decide +kernel
theorem dX1_value_20 : decode cX1_value 20 = .ok (.aload_n 0, 1) := by decide +kernel
theorem dX1_value_21 : decode cX1_value 21 = .ok (.getfield 9, 3) := by decide +kernel
theorem dX1_value_24 : decode cX1_value 24 = .ok (.iload_n 1, 1) := by decide +kernel
theorem dX1_value_25 : decode cX1_value 25 = .ok (.iaload, 1) := by decide +kernel
theorem dX1_value_26 : decode cX1_value 26 = .ok (.goto 4, 3) := by decide +kernel
theorem dX1_value_29 : decode cX1_value 29 = .ok (.iconst (-1), 1) := by decide +kernel
theorem dX1_value_30 : decode cX1_value 30 = .ok (.ireturn, 1) := by decide +kernel
theorem dX1_street_0 : decode cX1_street 0 = .ok (.aload_n 0, 1) := by decide +kernel
theorem dX1_street_1 : decode cX1_street 1 = .ok (.iload_n 1, 1) := by decide +kernel
theorem dX1_street_2 : decode cX1_street 2 = .ok (.invokevirtual 36, 3) := by decide +kernel
theorem dX1_street_5 : decode cX1_street 5 = .ok (.istore_n 2, 1) := by decide +kernel
theorem dX1_street_6 : decode cX1_street 6 = .ok (.iload_n 2, 1) := by decide +kernel
theorem dX1_street_7 : decode cX1_street 7 = .ok (.bipush 97, 2) := by decide +kernel
theorem dX1_street_9 : decode cX1_street 9 = .ok (.if_icmp .lt 16, 3) := by decide +kernel
theorem dX1_street_12 : decode cX1_street 12 = .ok (.iload_n 2, 1) := by decide +kernel
theorem dX1_street_13 : decode cX1_street 13 = .ok (.bipush 103, 2) := by decide +kernel
theorem dX1_street_15 : decode cX1_street 15 = .ok (.if_icmp .ge 10, 3) := by decide +kernel
theorem dX1_street_18 : decode cX1_street 18 = .ok (.iload_n 2, 1) := by decide +kernel
theorem dX1_street_19 : decode cX1_street 19 = .ok (.bipush 97, 2) := by decide +kernel
theorem dX1_street_21 : decode cX1_street 21 = .ok (.isub, 1) := by decide +kernel
theorem dX1_street_22 : decode cX1_street 22 = .ok (.goto 4, 3) := by decide +kernel
theorem dX1_street_25 : decode cX1_street 25 = .ok (.iconst (-1), 1) := by decide +kernel
theorem dX1_street_26 : decode cX1_street 26 = .ok (.ireturn, 1) := by decide +kernel
theorem dX1_addByte_0 : decode cX1_addByte 0 = .ok (.aload_n 0, 1) := by decide +kernel
theorem dX1_addByte_1 : decode cX1_addByte 1 = .ok (.getfield 15, 3) := by decide +kernel
theorem dX1_addByte_4 : decode cX1_addByte 4 = .ok (.aload_n 0, 1) := by decide +kernel
theorem dX1_addByte_5 : decode cX1_addByte 5 = .ok (.getfield 9, 3) := by decide +kernel
theorem dX1_addByte_8 : decode cX1_addByte 8 = .ok (.arraylength, 1) := by decide +kernel
theorem dX1_addByte_9 : decode cX1_addByte 9 = .ok (.invokestatic 32, 3) := by decide +kernel
theorem dX1_addByte_12 : decode cX1_addByte 12 = .ok (.ifCond .eq 23, 3) := by decide +kernel
theorem dX1_addByte_15 : decode cX1_addByte 15 = .ok (.aload_n 0, 1) := by decide +kernel
theorem dX1_addByte_16 : decode cX1_addByte 16 = .ok (.getfield 9, 3) := by decide +kernel
theorem dX1_addByte_19 : decode cX1_addByte 19 = .ok (.aload_n 0, 1) := by decide +kernel
theorem dX1_addByte_20 : decode cX1_addByte 20 = .ok (.getfield 15, 3) := by decide +kernel
theorem dX1_addByte_23 : decode cX1_addByte 23 = .ok (.iload_n 1, 1) := by decide +kernel
theorem dX1_addByte_24 : decode cX1_addByte 24 = .ok (.iastore, 1) := by decide +kernel
theorem dX1_addByte_25 : decode cX1_addByte 25 = .ok (.aload_n 0, 1) := by decide +kernel
theorem dX1_addByte_26 : decode cX1_addByte 26 = .ok (.dup, 1) := by decide +kernel
theorem dX1_addByte_27 : decode cX1_addByte 27 = .ok (.getfield 15, 3) := by decide +kernel
theorem dX1_addByte_30 : decode cX1_addByte 30 = .ok (.iconst 1, 1) := by decide +kernel
theorem dX1_addByte_31 : decode cX1_addByte 31 = .ok (.iadd, 1) := by decide +kernel
theorem dX1_addByte_32 : decode cX1_addByte 32 = .ok (.putfield 15, 3) := by decide +kernel
theorem dX1_addByte_35 : decode cX1_addByte 35 = .ok (.return_, 1) := by decide +kernel
theorem dX2_init_0 : decode cX2_init 0 = .ok (.aload_n 0, 1) := by decide +kernel
theorem dX2_init_1 : decode cX2_init 1 = .ok (.invokespecial 1, 3) := by decide +kernel
theorem dX2_init_4 : decode cX2_init 4 = .ok (.aload_n 0, 1) := by decide +kernel
theorem dX2_init_5 : decode cX2_init 5 = .ok (.new 7, 3) := by decide +kernel
theorem dX2_init_8 : decode cX2_init 8 = .ok (.dup, 1) := by decide +kernel
theorem dX2_init_9 : decode cX2_init 9 = .ok (.invokespecial 9, 3) := by decide +kernel
theorem dX2_init_12 : decode cX2_init 12 = .ok (.putfield 10, 3) := by decide +kernel
theorem dX2_init_15 : decode cX2_init 15 = .ok (.aload_n 0, 1) := by decide +kernel
theorem dX2_init_16 : decode cX2_init 16 = .ok (.new 7, 3) := by decide +kernel
theorem dX2_init_19 : decode cX2_init 19 = .ok (.dup, 1) := by decide +kernel
theorem dX2_init_20 : decode cX2_init 20 = .ok (.invokespecial 9, 3) := by decide +kernel
theorem dX2_init_23 : decode cX2_init 23 = .ok (.putfield 16, 3) := by decide +kernel
theorem dX2_init_26 : decode cX2_init 26 = .ok (.aload_n 0, 1) := by decide +kernel
theorem dX2_init_27 : decode cX2_init 27 = .ok (.new 7, 3) := by decide +kernel
theorem dX2_init_30 : decode cX2_init 30 = .ok (.dup, 1) := by decide +kernel
theorem dX2_init_31 : decode cX2_init 31 = .ok (.invokespecial 9, 3) := by decide +kernel
theorem dX2_init_34 : decode cX2_init 34 = .ok (.putfield 19, 3) := by decide +kernel
theorem dX2_init_37 : decode cX2_init 37 = .ok (.aload_n 0, 1) := by decide +kernel
theorem dX2_init_38 : decode cX2_init 38 = .ok (.aload_n 1, 1) := by decide +kernel
theorem dX2_init_39 : decode cX2_init 39 = .ok (.putfield 22, 3) := by decide +kernel
theorem dX2_init_42 : decode cX2_init 42 = .ok (.return_, 1) := by decide +kernel
theorem dX2_makeInner_0 : decode cX2_makeInner 0 = .ok (.new 11, 3) := by decide +kernel
theorem dX2_makeInner_3 : decode cX2_makeInner 3 = .ok (.dup, 1) := by decide +kernel
theorem dX2_makeInner_4 : decode cX2_makeInner 4 = .ok (.aload_n 0, 1) := by decide +kernel
theorem dX2_makeInner_5 : decode cX2_makeInner 5 = .ok (.invokespecial 26, 3) := by decide +kernel
theorem dX2_makeInner_8 : decode cX2_makeInner 8 = .ok (.astore_n 1, 1) := by decide +kernel
theorem dX2_makeInner_9 : decode cX2_makeInner 9 = .ok (.aload_n 0, 1) := by decide +kernel
theorem dX2_makeInner_10 : decode cX2_makeInner 10 = .ok (.aload_n 1, 1) := by decide +kernel
theorem dX2_makeInner_11 : decode cX2_makeInner 11 = .ok (.putfield 29, 3) := by decide +kernel
theorem dX2_makeInner_14 : decode cX2_makeInner 14 = .ok (.aload_n 1, 1) := by decide +kernel
theorem dX2_makeInner_15 : decode cX2_makeInner 15 = .ok (.areturn, 1) := by decide +kernel
theorem dX2_begin_0 : decode cX2_begin 0 = .ok (.aload_n 0, 1) := by decide +kernel
theorem dX2_begin_1 : decode cX2_begin 1 = .ok (.getfield 10, 3) := by decide +kernel
theorem dX2_begin_4 : decode cX2_begin 4 = .ok (.iconst 0, 1) := by decide +kernel
theorem dX2_begin_5 : decode cX2_begin 5 = .ok (.iconst 0, 1) := by decide +kernel
theorem dX2_begin_6 : decode cX2_begin 6 = .ok (.iconst 0, 1) := by decide +kernel
theorem dX2_begin_7 : decode cX2_begin 7 = .ok (.invokevirtual 32, 3) := by decide +kernel
theorem dX2_begin_10 : decode cX2_begin 10 = .ok (.aload_n 0, 1) := by decide +kernel
theorem dX2_begin_11 : decode cX2_begin 11 = .ok (.invokevirtual 36, 3) := by decide +kernel
theorem dX2_begin_14 : decode cX2_begin 14 = .ok (.return_, 1) := by decide +kernel
theorem dX2_beginBranch_0 : decode cX2_beginBranch 0 = .ok (.aload_n 0, 1) := by decide +kernel
theorem dX2_beginBranch_1 : decode cX2_beginBranch 1 = .ok (.getfield 16, 3) := by decide +kernel
theorem dX2_beginBranch_4 : decode cX2_beginBranch 4 = .ok (.iconst 1, 1) := by decide +kernel
theorem dX2_beginBranch_5 : decode cX2_beginBranch 5 = .ok (.iconst 0, 1) := by decide +kernel
theorem dX2_beginBranch_6 : decode cX2_beginBranch 6 = .ok (.iconst 0, 1) := by decide +kernel
theorem dX2_beginBranch_7 : decode cX2_beginBranch 7 = .ok (.invokevirtual 32, 3) := by decide +kernel
theorem dX2_beginBranch_10 : decode cX2_beginBranch 10 = .ok (.aload_n 0, 1) := by decide +kernel
theorem dX2_beginBranch_11 : decode cX2_beginBranch 11 = .ok (.iconst 0, 1) := by decide +kernel
theorem dX2_beginBranch_12 : decode cX2_beginBranch 12 = .ok (.putfield 39, 3) := by decide +kernel
theorem dX2_beginBranch_15 : decode cX2_beginBranch 15 = .ok (.return_, 1) := by decide +kernel
theorem dX2_beginPiece_0 : decode cX2_beginPiece 0 = .ok (.aload_n 0, 1) := by decide +kernel
theorem dX2_beginPiece_1 : decode cX2_beginPiece 1 = .ok (.getfield 19, 3) := by decide +kernel
theorem dX2_beginPiece_4 : decode cX2_beginPiece 4 = .ok (.iload_n 1, 1) := by decide +kernel
theorem dX2_beginPiece_5 : decode cX2_beginPiece 5 = .ok (.iload_n 2, 1) := by decide +kernel
theorem dX2_beginPiece_6 : decode cX2_beginPiece 6 = .ok (.iload_n 3, 1) := by decide +kernel
theorem dX2_beginPiece_7 : decode cX2_beginPiece 7 = .ok (.invokevirtual 32, 3) := by decide +kernel
theorem dX2_beginPiece_10 : decode cX2_beginPiece 10 = .ok (.aload_n 0, 1) := by decide +kernel
theorem dX2_beginPiece_11 : decode cX2_beginPiece 11 = .ok (.iconst 1, 1) := by decide +kernel
theorem dX2_beginPiece_12 : decode cX2_beginPiece 12 = .ok (.putfield 39, 3) := by decide +kernel
theorem dX2_beginPiece_15 : decode cX2_beginPiece 15 = .ok (.return_, 1) := by decide +kernel
theorem dX3_init_0 : decode cX3_init 0 = .ok (.aload_n 0, 1) := by decide +kernel
theorem dX3_init_1 : decode cX3_init 1 = .ok (.invokespecial 3, 3) := by decide +kernel
theorem dX3_init_4 : decode cX3_init 4 = .ok (.aload_n 0, 1) := by decide +kernel
theorem dX3_init_5 : decode cX3_init 5 = .ok (.sipush 3600, 3) := by decide +kernel
theorem dX3_init_8 : decode cX3_init 8 = .ok (.newarray .boolean, 2) := by decide +kernel
theorem dX3_init_10 : decode cX3_init 10 = .ok (.putfield 9, 3) := by decide +kernel
theorem dX3_init_13 : decode cX3_init 13 = .ok (.aload_n 0, 1) := by decide +kernel
theorem dX3_init_14 : decode cX3_init 14 = .ok (.sipush 3600, 3) := by decide +kernel
theorem dX3_init_17 : decode cX3_init 17 = .ok (.newarray .int, 2) := by decide +kernel
theorem dX3_init_19 : decode cX3_init 19 = .ok (.putfield 15, 3) := by decide +kernel
theorem dX3_init_22 : decode cX3_init 22 = .ok (.aload_n 0, 1) := by decide +kernel
theorem dX3_init_23 : decode cX3_init 23 = .ok (.sipush 3600, 3) := by decide +kernel
theorem dX3_init_26 : decode cX3_init 26 = .ok (.newarray .int, 2) := by decide +kernel
theorem dX3_init_28 : decode cX3_init 28 = .ok (.putfield 19, 3) := by decide +kernel
theorem dX3_init_31 : decode cX3_init 31 = .ok (.aload_n 0, 1) := by decide +kernel
theorem dX3_init_32 : decode cX3_init 32 = .ok (.sipush 3600, 3) := by decide +kernel
theorem dX3_init_35 : decode cX3_init 35 = .ok (.newarray .int, 2) := by decide +kernel
theorem dX3_init_37 : decode cX3_init 37 = .ok (.putfield 22, 3) := by decide +kernel
theorem dX3_init_40 : decode cX3_init 40 = .ok (.return_, 1) := by decide +kernel
theorem dX4_init_0 : decode cX4_init 0 = .ok (.aload_n 0, 1) := by decide +kernel
theorem dX4_init_1 : decode cX4_init 1 = .ok (.invokespecial 1, 3) := by decide +kernel
theorem dX4_init_4 : decode cX4_init 4 = .ok (.return_, 1) := by decide +kernel
theorem dX4_set_0 : decode cX4_set 0 = .ok (.aload_n 0, 1) := by decide +kernel
theorem dX4_set_1 : decode cX4_set 1 = .ok (.iload_n 1, 1) := by decide +kernel
theorem dX4_set_2 : decode cX4_set 2 = .ok (.putfield 7, 3) := by decide +kernel
theorem dX4_set_5 : decode cX4_set 5 = .ok (.aload_n 0, 1) := by decide +kernel
theorem dX4_set_6 : decode cX4_set 6 = .ok (.iload_n 2, 1) := by decide +kernel
theorem dX4_set_7 : decode cX4_set 7 = .ok (.putfield 13, 3) := by decide +kernel
theorem dX4_set_10 : decode cX4_set 10 = .ok (.aload_n 0, 1) := by decide +kernel
theorem dX4_set_11 : decode cX4_set 11 = .ok (.iload_n 3, 1) := by decide +kernel
theorem dX4_set_12 : decode cX4_set 12 = .ok (.putfield 17, 3) := by decide +kernel
theorem dX4_set_15 : decode cX4_set 15 = .ok (.return_, 1) := by decide +kernel
theorem dX5_init_0 : decode cX5_init 0 = .ok (.aload_n 0, 1) := by decide +kernel
theorem dX5_init_1 : decode cX5_init 1 = .ok (.invokespecial 3, 3) := by decide +kernel
theorem dX5_init_4 : decode cX5_init 4 = .ok (.aload_n 1, 1) := by decide +kernel
theorem dX5_init_5 : decode cX5_init 5 = .ok (.invokevirtual 9, 3) := by decide +kernel
theorem dX5_init_8 : decode cX5_init 8 = .ok (.astore_n 2, 1) := by decide +kernel
theorem dX5_init_9 : decode cX5_init 9 = .ok (.aload_n 0, 1) := by decide +kernel
theorem dX5_init_10 : decode cX5_init 10 = .ok (.aload_n 1, 1) := by decide +kernel
theorem dX5_init_11 : decode cX5_init 11 = .ok (.getfield 15, 3) := by decide +kernel
theorem dX5_init_14 : decode cX5_init 14 = .ok (.putfield 19, 3) := by decide +kernel
theorem dX5_init_17 : decode cX5_init 17 = .ok (.aload_n 0, 1) := by decide +kernel
theorem dX5_init_18 : decode cX5_init 18 = .ok (.aload_n 1, 1) := by decide +kernel
theorem dX5_init_19 : decode cX5_init 19 = .ok (.getfield 22, 3) := by decide +kernel
theorem dX5_init_22 : decode cX5_init 22 = .ok (.putfield 25, 3) := by decide +kernel
theorem dX5_init_25 : decode cX5_init 25 = .ok (.aload_n 0, 1) := by decide +kernel
theorem dX5_init_26 : decode cX5_init 26 = .ok (.aload_n 2, 1) := by decide +kernel
theorem dX5_init_27 : decode cX5_init 27 = .ok (.getfield 26, 3) := by decide +kernel
theorem dX5_init_30 : decode cX5_init 30 = .ok (.putfield 32, 3) := by decide +kernel
theorem dX5_init_33 : decode cX5_init 33 = .ok (.aload_n 0, 1) := by decide +kernel
theorem dX5_init_34 : decode cX5_init 34 = .ok (.aload_n 2, 1) := by decide +kernel
theorem dX5_init_35 : decode cX5_init 35 = .ok (.getfield 33, 3) := by decide +kernel
theorem dX5_init_38 : decode cX5_init 38 = .ok (.putfield 36, 3) := by decide +kernel
theorem dX5_init_41 : decode cX5_init 41 = .ok (.aload_n 0, 1) := by decide +kernel
theorem dX5_init_42 : decode cX5_init 42 = .ok (.aload_n 2, 1) := by decide +kernel
theorem dX5_init_43 : decode cX5_init 43 = .ok (.getfield 37, 3) := by decide +kernel
theorem dX5_init_46 : decode cX5_init 46 = .ok (.putfield 40, 3) := by decide +kernel
theorem dX5_init_49 : decode cX5_init 49 = .ok (.aload_n 0, 1) := by decide +kernel
theorem dX5_init_50 : decode cX5_init 50 = .ok (.aload_n 1, 1) := by decide +kernel
theorem dX5_init_51 : decode cX5_init 51 = .ok (.getfield 41, 3) := by decide +kernel
theorem dX5_init_54 : decode cX5_init 54 = .ok (.putfield 44, 3) := by decide +kernel
theorem dX5_init_57 : decode cX5_init 57 = .ok (.aload_n 0, 1) := by decide +kernel
theorem dX5_init_58 : decode cX5_init 58 = .ok (.aload_n 1, 1) := by decide +kernel
theorem dX5_init_59 : decode cX5_init 59 = .ok (.getfield 45, 3) := by decide +kernel
theorem dX5_init_62 : decode cX5_init 62 = .ok (.invokevirtual 49, 3) := by decide +kernel
theorem dX5_init_65 : decode cX5_init 65 = .ok (.checkcast 50, 3) := by decide +kernel
theorem dX5_init_68 : decode cX5_init 68 = .ok (.putfield 54, 3) := by decide +kernel
theorem dX5_init_71 : decode cX5_init 71 = .ok (.aload_n 0, 1) := by decide +kernel
theorem dX5_init_72 : decode cX5_init 72 = .ok (.aload_n 1, 1) := by decide +kernel
theorem dX5_init_73 : decode cX5_init 73 = .ok (.getfield 55, 3) := by decide +kernel
theorem dX5_init_76 : decode cX5_init 76 = .ok (.invokevirtual 49, 3) := by decide +kernel
theorem dX5_init_79 : decode cX5_init 79 = .ok (.checkcast 50, 3) := by decide +kernel
theorem dX5_init_82 : decode cX5_init 82 = .ok (.putfield 58, 3) := by decide +kernel
theorem dX5_init_85 : decode cX5_init 85 = .ok (.aload_n 0, 1) := by decide +kernel
theorem dX5_init_86 : decode cX5_init 86 = .ok (.aload_n 1, 1) := by decide +kernel
theorem dX5_init_87 : decode cX5_init 87 = .ok (.getfield 59, 3) := by decide +kernel
theorem dX5_init_90 : decode cX5_init 90 = .ok (.invokevirtual 49, 3) := by decide +kernel
theorem dX5_init_93 : decode cX5_init 93 = .ok (.checkcast 50, 3) := by decide +kernel
theorem dX5_init_96 : decode cX5_init 96 = .ok (.putfield 62, 3) := by decide +kernel
theorem dX5_init_99 : decode cX5_init 99 = .ok (.aload_n 0, 1) := by decide +kernel
theorem dX5_init_100 : decode cX5_init 100 = .ok (.aload_n 1, 1) := by decide +kernel
theorem dX5_init_101 : decode cX5_init 101 = .ok (.getfield 63, 3) := by decide +kernel
theorem dX5_init_104 : decode cX5_init 104 = .ok (.invokevirtual 49, 3) := by decide +kernel
theorem dX5_init_107 : decode cX5_init 107 = .ok (.checkcast 50, 3) := by decide +kernel
theorem dX5_init_110 : decode cX5_init 110 = .ok (.putfield 66, 3) := by decide +kernel
theorem dX5_init_113 : decode cX5_init 113 = .ok (.aload_n 0, 1) := by decide +kernel
theorem dX5_init_114 : decode cX5_init 114 = .ok (.aload_n 1, 1) := by decide +kernel
theorem dX5_init_115 : decode cX5_init 115 = .ok (.getfield 67, 3) := by decide +kernel
theorem dX5_init_118 : decode cX5_init 118 = .ok (.invokevirtual 49, 3) := by decide +kernel
theorem dX5_init_121 : decode cX5_init 121 = .ok (.checkcast 50, 3) := by decide +kernel
theorem dX5_init_124 : decode cX5_init 124 = .ok (.putfield 70, 3) := by decide +kernel
theorem dX5_init_127 : decode cX5_init 127 = .ok (.return_, 1) := by decide +kernel
theorem dX5_streetOf_0 : decode cX5_streetOf 0 = .ok (.iload_n 1, 1) := by decide +kernel
theorem dX5_streetOf_1 : decode cX5_streetOf 1 = .ok (.aload_n 0, 1) := by decide +kernel
theorem dX5_streetOf_2 : decode cX5_streetOf 2 = .ok (.getfield 54, 3) := by decide +kernel
theorem dX5_streetOf_5 : decode cX5_streetOf 5 = .ok (.arraylength, 1) := by decide +kernel
theorem dX5_streetOf_6 : decode cX5_streetOf 6 = .ok (.invokestatic 71, 3) := by decide +kernel
theorem dX5_streetOf_9 : decode cX5_streetOf 9 = .ok (.ifCond .eq 12, 3) := by decide +kernel
theorem dX5_streetOf_12 : decode cX5_streetOf 12 = .ok (.aload_n 0, 1) := by decide +kernel
theorem dX5_streetOf_13 : decode cX5_streetOf 13 = .ok (.getfield 54, 3) := by decide +kernel
theorem dX5_streetOf_16 : decode cX5_streetOf 16 = .ok (.iload_n 1, 1) := by decide +kernel
theorem dX5_streetOf_17 : decode cX5_streetOf 17 = .ok (.iaload, 1) := by decide +kernel
theorem dX5_streetOf_18 : decode cX5_streetOf 18 = .ok (.goto 4, 3) := by decide +kernel
theorem dX5_streetOf_21 : decode cX5_streetOf 21 = .ok (.iconst (-1), 1) := by decide +kernel
theorem dX5_streetOf_22 : decode cX5_streetOf 22 = .ok (.ireturn, 1) := by decide +kernel
theorem dX5_followOf_0 : decode cX5_followOf 0 = .ok (.iload_n 1, 1) := by decide +kernel
theorem dX5_followOf_1 : decode cX5_followOf 1 = .ok (.aload_n 0, 1) := by decide +kernel
theorem dX5_followOf_2 : decode cX5_followOf 2 = .ok (.getfield 58, 3) := by decide +kernel
theorem dX5_followOf_5 : decode cX5_followOf 5 = .ok (.arraylength, 1) := by decide +kernel
theorem dX5_followOf_6 : decode cX5_followOf 6 = .ok (.invokestatic 71, 3) := by decide +kernel
theorem dX5_followOf_9 : decode cX5_followOf 9 = .ok (.ifCond .eq 12, 3) := by decide +kernel
theorem dX5_followOf_12 : decode cX5_followOf 12 = .ok (.aload_n 0, 1) := by decide +kernel
theorem dX5_followOf_13 : decode cX5_followOf 13 = .ok (.getfield 58, 3) := by decide +kernel
theorem dX5_followOf_16 : decode cX5_followOf 16 = .ok (.iload_n 1, 1) := by decide +kernel
theorem dX5_followOf_17 : decode cX5_followOf 17 = .ok (.iaload, 1) := by decide +kernel
theorem dX5_followOf_18 : decode cX5_followOf 18 = .ok (.goto 4, 3) := by decide +kernel
theorem dX5_followOf_21 : decode cX5_followOf 21 = .ok (.iconst 0, 1) := by decide +kernel
theorem dX5_followOf_22 : decode cX5_followOf 22 = .ok (.ireturn, 1) := by decide +kernel
theorem dX5_after_0 : decode cX5_after 0 = .ok (.iload_n 1, 1) := by decide +kernel
theorem dX5_after_1 : decode cX5_after 1 = .ok (.aload_n 0, 1) := by decide +kernel
theorem dX5_after_2 : decode cX5_after 2 = .ok (.getfield 44, 3) := by decide +kernel
theorem dX5_after_5 : decode cX5_after 5 = .ok (.invokestatic 71, 3) := by decide +kernel
theorem dX5_after_8 : decode cX5_after 8 = .ok (.ifCond .eq 12, 3) := by decide +kernel
theorem dX5_after_11 : decode cX5_after 11 = .ok (.iload_n 2, 1) := by decide +kernel
theorem dX5_after_12 : decode cX5_after 12 = .ok (.bipush 6, 2) := by decide +kernel
theorem dX5_after_14 : decode cX5_after 14 = .ok (.invokestatic 71, 3) := by decide +kernel
theorem dX5_after_17 : decode cX5_after 17 = .ok (.ifCond .ne 5, 3) := by decide +kernel
theorem dX5_after_20 : decode cX5_after 20 = .ok (.iconst (-1), 1) := by decide +kernel
theorem dX5_after_21 : decode cX5_after 21 = .ok (.ireturn, 1) := by decide +kernel
theorem dX5_after_22 : decode cX5_after 22 = .ok (.iload_n 1, 1) := by decide +kernel
theorem dX5_after_23 : decode cX5_after 23 = .ok (.bipush 6, 2) := by decide +kernel
theorem dX5_after_25 : decode cX5_after 25 = .ok (.imul, 1) := by decide +kernel
theorem dX5_after_26 : decode cX5_after 26 = .ok (.iload_n 2, 1) := by decide +kernel
theorem dX5_after_27 : decode cX5_after 27 = .ok (.iadd, 1) := by decide +kernel
theorem dX5_after_28 : decode cX5_after 28 = .ok (.istore_n 3, 1) := by decide +kernel
theorem dX5_after_29 : decode cX5_after 29 = .ok (.iload_n 3, 1) := by decide +kernel
theorem dX5_after_30 : decode cX5_after 30 = .ok (.aload_n 0, 1) := by decide +kernel
theorem dX5_after_31 : decode cX5_after 31 = .ok (.getfield 70, 3) := by decide +kernel
theorem dX5_after_34 : decode cX5_after 34 = .ok (.arraylength, 1) := by decide +kernel
theorem dX5_after_35 : decode cX5_after 35 = .ok (.invokestatic 71, 3) := by decide +kernel
theorem dX5_after_38 : decode cX5_after 38 = .ok (.ifCond .eq 12, 3) := by decide +kernel
theorem dX5_after_41 : decode cX5_after 41 = .ok (.aload_n 0, 1) := by decide +kernel
theorem dX5_after_42 : decode cX5_after 42 = .ok (.getfield 70, 3) := by decide +kernel
theorem dX5_after_45 : decode cX5_after 45 = .ok (.iload_n 3, 1) := by decide +kernel
theorem dX5_after_46 : decode cX5_after 46 = .ok (.iaload, 1) := by decide +kernel
theorem dX5_after_47 : decode cX5_after 47 = .ok (.goto 4, 3) := by decide +kernel
theorem dX5_after_50 : decode cX5_after 50 = .ok (.iconst (-1), 1) := by decide +kernel
theorem dX5_after_51 : decode cX5_after 51 = .ok (.ireturn, 1) := by decide +kernel
theorem dX5_accepts_0 : decode cX5_accepts 0 = .ok (.iload_n 1, 1) := by decide +kernel
theorem dX5_accepts_1 : decode cX5_accepts 1 = .ok (.ifCond .ne 10, 3) := by decide +kernel
theorem dX5_accepts_4 : decode cX5_accepts 4 = .ok (.aload_n 0, 1) := by decide +kernel
theorem dX5_accepts_5 : decode cX5_accepts 5 = .ok (.getfield 32, 3) := by decide +kernel
theorem dX5_accepts_8 : decode cX5_accepts 8 = .ok (.goto 21, 3) := by decide +kernel
theorem dX5_accepts_11 : decode cX5_accepts 11 = .ok (.aload_n 0, 1) := by decide +kernel
theorem dX5_accepts_12 : decode cX5_accepts 12 = .ok (.iload_n 1, 1) := by decide +kernel
theorem dX5_accepts_13 : decode cX5_accepts 13 = .ok (.invokevirtual 75, 3) := by decide +kernel
theorem dX5_accepts_16 : decode cX5_accepts 16 = .ok (.aload_n 0, 1) := by decide +kernel
theorem dX5_accepts_17 : decode cX5_accepts 17 = .ok (.getfield 40, 3) := by decide +kernel
theorem dX5_accepts_20 : decode cX5_accepts 20 = .ok (.iand, 1) := by decide +kernel
theorem dX5_accepts_21 : decode cX5_accepts 21 = .ok (.ifCond .eq 7, 3) := by decide +kernel
theorem dX5_accepts_24 : decode cX5_accepts 24 = .ok (.iconst 1, 1) := by decide +kernel
theorem dX5_accepts_25 : decode cX5_accepts 25 = .ok (.goto 4, 3) := by decide +kernel
theorem dX5_accepts_28 : decode cX5_accepts 28 = .ok (.iconst 0, 1) := by decide +kernel
theorem dX5_accepts_29 : decode cX5_accepts 29 = .ok (.ireturn, 1) := by decide +kernel
theorem dX5_positionsIn_0 : decode cX5_positionsIn 0 = .ok (.iload_n 1, 1) := by decide +kernel
theorem dX5_positionsIn_1 : decode cX5_positionsIn 1 = .ok (.ifCond .lt 32, 3) := by decide +kernel
theorem dX5_positionsIn_4 : decode cX5_positionsIn 4 = .ok (.iload_n 1, 1) := by decide +kernel
theorem dX5_positionsIn_5 : decode cX5_positionsIn 5 = .ok (.aload_n 0, 1) := by decide +kernel
theorem dX5_positionsIn_6 : decode cX5_positionsIn 6 = .ok (.getfield 44, 3) := by decide +kernel
theorem dX5_positionsIn_9 : decode cX5_positionsIn 9 = .ok (.if_icmp .ge 24, 3) := by decide +kernel
theorem dX5_positionsIn_12 : decode cX5_positionsIn 12 = .ok (.iload_n 1, 1) := by decide +kernel
theorem dX5_positionsIn_13 : decode cX5_positionsIn 13 = .ok (.aload_n 0, 1) := by decide +kernel
theorem dX5_positionsIn_14 : decode cX5_positionsIn 14 = .ok (.getfield 66, 3) := by decide +kernel
theorem dX5_positionsIn_17 : decode cX5_positionsIn 17 = .ok (.arraylength, 1) := by decide +kernel
theorem dX5_positionsIn_18 : decode cX5_positionsIn 18 = .ok (.if_icmp .ge 15, 3) := by decide +kernel
theorem dX5_positionsIn_21 : decode cX5_positionsIn 21 = .ok (.aload_n 0, 1) := by decide +kernel
theorem dX5_positionsIn_22 : decode cX5_positionsIn 22 = .ok (.getfield 66, 3) := by decide +kernel
theorem dX5_positionsIn_25 : decode cX5_positionsIn 25 = .ok (.iload_n 1, 1) := by decide +kernel
theorem dX5_positionsIn_26 : decode cX5_positionsIn 26 = .ok (.iaload, 1) := by decide +kernel
theorem dX5_positionsIn_27 : decode cX5_positionsIn 27 = .ok (.bipush (-2), 2) := by decide +kernel
theorem dX5_positionsIn_29 : decode cX5_positionsIn 29 = .ok (.iand, 1) := by decide +kernel
theorem dX5_positionsIn_30 : decode cX5_positionsIn 30 = .ok (.goto 4, 3) := by decide +kernel
theorem dX5_positionsIn_33 : decode cX5_positionsIn 33 = .ok (.iconst 0, 1) := by decide +kernel
theorem dX5_positionsIn_34 : decode cX5_positionsIn 34 = .ok (.ireturn, 1) := by decide +kernel
theorem dX6_init_0 : decode cX6_init 0 = .ok (.aload_n 0, 1) := by decide +kernel
theorem dX6_init_1 : decode cX6_init 1 = .ok (.invokespecial 3, 3) := by decide +kernel
theorem dX6_init_4 : decode cX6_init 4 = .ok (.aload_n 0, 1) := by decide +kernel
theorem dX6_init_5 : decode cX6_init 5 = .ok (.bipush 25, 2) := by decide +kernel
theorem dX6_init_7 : decode cX6_init 7 = .ok (.newarray .int, 2) := by decide +kernel
theorem dX6_init_9 : decode cX6_init 9 = .ok (.putfield 9, 3) := by decide +kernel
theorem dX6_init_12 : decode cX6_init 12 = .ok (.aload_n 0, 1) := by decide +kernel
theorem dX6_init_13 : decode cX6_init 13 = .ok (.bipush 25, 2) := by decide +kernel
theorem dX6_init_15 : decode cX6_init 15 = .ok (.newarray .int, 2) := by decide +kernel
theorem dX6_init_17 : decode cX6_init 17 = .ok (.putfield 15, 3) := by decide +kernel
theorem dX6_init_20 : decode cX6_init 20 = .ok (.aload_n 0, 1) := by decide +kernel
theorem dX6_init_21 : decode cX6_init 21 = .ok (.bipush 6, 2) := by decide +kernel
theorem dX6_init_23 : decode cX6_init 23 = .ok (.newarray .int, 2) := by decide +kernel
theorem dX6_init_25 : decode cX6_init 25 = .ok (.putfield 18, 3) := by decide +kernel
theorem dX6_init_28 : decode cX6_init 28 = .ok (.aload_n 0, 1) := by decide +kernel
theorem dX6_init_29 : decode cX6_init 29 = .ok (.bipush 60, 2) := by decide +kernel
theorem dX6_init_31 : decode cX6_init 31 = .ok (.newarray .int, 2) := by decide +kernel
theorem dX6_init_33 : decode cX6_init 33 = .ok (.putfield 21, 3) := by decide +kernel
theorem dX6_init_36 : decode cX6_init 36 = .ok (.aload_n 0, 1) := by decide +kernel
theorem dX6_init_37 : decode cX6_init 37 = .ok (.sipush 360, 3) := by decide +kernel
theorem dX6_init_40 : decode cX6_init 40 = .ok (.newarray .int, 2) := by decide +kernel
theorem dX6_init_42 : decode cX6_init 42 = .ok (.putfield 24, 3) := by decide +kernel
theorem dX6_init_45 : decode cX6_init 45 = .ok (.aload_n 0, 1) := by decide +kernel
theorem dX6_init_46 : decode cX6_init 46 = .ok (.new 27, 3) := by decide +kernel
theorem dX6_init_49 : decode cX6_init 49 = .ok (.dup, 1) := by decide +kernel
theorem dX6_init_50 : decode cX6_init 50 = .ok (.aconst_null, 1) := by decide +kernel
theorem dX6_init_51 : decode cX6_init 51 = .ok (.invokespecial 29, 3) := by decide +kernel
theorem dX6_init_54 : decode cX6_init 54 = .ok (.putfield 32, 3) := by decide +kernel
theorem dX6_init_57 : decode cX6_init 57 = .ok (.aload_n 0, 1) := by decide +kernel
theorem dX6_init_58 : decode cX6_init 58 = .ok (.getfield 32, 3) := by decide +kernel
theorem dX6_init_61 : decode cX6_init 61 = .ok (.astore_n 1, 1) := by decide +kernel
theorem dX6_init_62 : decode cX6_init 62 = .ok (.iconst 0, 1) := by decide +kernel
theorem dX6_init_63 : decode cX6_init 63 = .ok (.istore_n 2, 1) := by decide +kernel
theorem dX6_init_64 : decode cX6_init 64 = .ok (.iload_n 2, 1) := by decide +kernel
theorem dX6_init_65 : decode cX6_init 65 = .ok (.bipush 20, 2) := by decide +kernel
theorem dX6_init_67 : decode cX6_init 67 = .ok (.if_icmp .ge 14, 3) := by decide +kernel
theorem dX6_init_70 : decode cX6_init 70 = .ok (.aload_n 1, 1) := by decide +kernel
theorem dX6_init_71 : decode cX6_init 71 = .ok (.invokevirtual 36, 3) := by decide +kernel
theorem dX6_init_74 : decode cX6_init 74 = .ok (.astore_n 1, 1) := by decide +kernel
theorem dX6_init_75 : decode cX6_init 75 = .ok (.iinc 2 1, 3) := by decide +kernel
theorem dX6_init_78 : decode cX6_init 78 = .ok (.goto (-14), 3) := by decide +kernel
theorem dX6_init_81 : decode cX6_init 81 = .ok (.aload_n 0, 1) := by decide +kernel
theorem dX6_init_82 : decode cX6_init 82 = .ok (.aload_n 0, 1) := by decide +kernel
theorem dX6_init_83 : decode cX6_init 83 = .ok (.getfield 32, 3) := by decide +kernel
theorem dX6_init_86 : decode cX6_init 86 = .ok (.putfield 40, 3) := by decide +kernel
theorem dX6_init_89 : decode cX6_init 89 = .ok (.return_, 1) := by decide +kernel
theorem dX6_errorOffset_0 : decode cX6_errorOffset 0 = .ok (.aload_n 0, 1) := by decide +kernel
theorem dX6_errorOffset_1 : decode cX6_errorOffset 1 = .ok (.getfield 43, 3) := by decide +kernel
theorem dX6_errorOffset_4 : decode cX6_errorOffset 4 = .ok (.ireturn, 1) := by decide +kernel
theorem dX6_whole_0 : decode cX6_whole 0 = .ok (.aload_n 0, 1) := by decide +kernel
theorem dX6_whole_1 : decode cX6_whole 1 = .ok (.getfield 32, 3) := by decide +kernel
theorem dX6_whole_4 : decode cX6_whole 4 = .ok (.getfield 47, 3) := by decide +kernel
theorem dX6_whole_7 : decode cX6_whole 7 = .ok (.areturn, 1) := by decide +kernel
theorem dX6_read_0 : decode cX6_read 0 = .ok (.aload_n 0, 1) := by decide +kernel
theorem dX6_read_1 : decode cX6_read 1 = .ok (.invokevirtual 51, 3) := by decide +kernel
theorem dX6_read_4 : decode cX6_read 4 = .ok (.iconst 0, 1) := by decide +kernel
theorem dX6_read_5 : decode cX6_read 5 = .ok (.istore_n 2, 1) := by decide +kernel
theorem dX6_read_6 : decode cX6_read 6 = .ok (.iload_n 2, 1) := by decide +kernel
theorem dX6_read_7 : decode cX6_read 7 = .ok (.aload_n 1, 1) := by decide +kernel
theorem dX6_read_8 : decode cX6_read 8 = .ok (.invokevirtual 54, 3) := by decide +kernel
theorem dX6_read_11 : decode cX6_read 11 = .ok (.if_icmp .ge 30, 3) := by decide +kernel
theorem dX6_read_14 : decode cX6_read 14 = .ok (.aload_n 0, 1) := by decide +kernel
theorem dX6_read_15 : decode cX6_read 15 = .ok (.aload_n 1, 1) := by decide +kernel
theorem dX6_read_16 : decode cX6_read 16 = .ok (.iload_n 2, 1) := by decide +kernel
theorem dX6_read_17 : decode cX6_read 17 = .ok (.invokevirtual 60, 3) := by decide +kernel
theorem dX6_read_20 : decode cX6_read 20 = .ok (.invokevirtual 64, 3) := by decide +kernel
theorem dX6_read_23 : decode cX6_read 23 = .ok (.istore_n 3, 1) := by decide +kernel
theorem dX6_read_24 : decode cX6_read 24 = .ok (.iload_n 3, 1) := by decide +kernel
theorem dX6_read_25 : decode cX6_read 25 = .ok (.ifCond .eq 10, 3) := by decide +kernel
theorem dX6_read_28 : decode cX6_read 28 = .ok (.aload_n 0, 1) := by decide +kernel
theorem dX6_read_29 : decode cX6_read 29 = .ok (.iload_n 2, 1) := by decide +kernel
theorem dX6_read_30 : decode cX6_read 30 = .ok (.putfield 43, 3) := by decide +kernel
theorem dX6_read_33 : decode cX6_read 33 = .ok (.iload_n 3, 1) := by decide +kernel
theorem dX6_read_34 : decode cX6_read 34 = .ok (.ireturn, 1) := by decide +kernel
theorem dX6_read_35 : decode cX6_read 35 = .ok (.iinc 2 1, 3) := by decide +kernel
theorem dX6_read_38 : decode cX6_read 38 = .ok (.goto (-32), 3) := by decide +kernel
theorem dX6_read_41 : decode cX6_read 41 = .ok (.aload_n 0, 1) := by decide +kernel
theorem dX6_read_42 : decode cX6_read 42 = .ok (.aload_n 1, 1) := by decide +kernel
theorem dX6_read_43 : decode cX6_read 43 = .ok (.invokevirtual 54, 3) := by decide +kernel
theorem dX6_read_46 : decode cX6_read 46 = .ok (.putfield 43, 3) := by decide +kernel
theorem dX6_read_49 : decode cX6_read 49 = .ok (.aload_n 0, 1) := by decide +kernel
theorem dX6_read_50 : decode cX6_read 50 = .ok (.getfield 40, 3) := by decide +kernel
theorem dX6_read_53 : decode cX6_read 53 = .ok (.getfield 67, 3) := by decide +kernel
theorem dX6_read_56 : decode cX6_read 56 = .ok (.ifnull 5, 3) := by decide +kernel
theorem dX6_read_59 : decode cX6_read 59 = .ok (.iconst 1, 1) := by decide +kernel
theorem dX6_read_60 : decode cX6_read 60 = .ok (.ireturn, 1) := by decide +kernel
theorem dX6_read_61 : decode cX6_read 61 = .ok (.aload_n 0, 1) := by decide +kernel
theorem dX6_read_62 : decode cX6_read 62 = .ok (.invokevirtual 70, 3) := by decide +kernel
theorem dX6_read_65 : decode cX6_read 65 = .ok (.aload_n 0, 1) := by decide +kernel
theorem dX6_read_66 : decode cX6_read 66 = .ok (.invokevirtual 73, 3) := by decide +kernel
theorem dX6_read_69 : decode cX6_read 69 = .ok (.ifCond .eq 7, 3) := by decide +kernel
theorem dX6_read_72 : decode cX6_read 72 = .ok (.iconst 0, 1) := by decide +kernel
theorem dX6_read_73 : decode cX6_read 73 = .ok (.goto 4, 3) := by decide +kernel
theorem dX6_read_76 : decode cX6_read 76 = .ok (.iconst 4, 1) := by decide +kernel
theorem dX6_read_77 : decode cX6_read 77 = .ok (.ireturn, 1) := by decide +kernel
theorem dX6_begin_0 : decode cX6_begin 0 = .ok (.aload_n 0, 1) := by decide +kernel
theorem dX6_begin_1 : decode cX6_begin 1 = .ok (.aload_n 0, 1) := by decide +kernel
theorem dX6_begin_2 : decode cX6_begin 2 = .ok (.getfield 32, 3) := by decide +kernel
theorem dX6_begin_5 : decode cX6_begin 5 = .ok (.putfield 40, 3) := by decide +kernel
theorem dX6_begin_8 : decode cX6_begin 8 = .ok (.aload_n 0, 1) := by decide +kernel
theorem dX6_begin_9 : decode cX6_begin 9 = .ok (.getfield 40, 3) := by decide +kernel
theorem dX6_begin_12 : decode cX6_begin 12 = .ok (.invokevirtual 77, 3) := by decide +kernel
theorem dX6_begin_15 : decode cX6_begin 15 = .ok (.aload_n 0, 1) := by decide +kernel
theorem dX6_begin_16 : decode cX6_begin 16 = .ok (.iconst 0, 1) := by decide +kernel
theorem dX6_begin_17 : decode cX6_begin 17 = .ok (.putfield 78, 3) := by decide +kernel
theorem dX6_begin_20 : decode cX6_begin 20 = .ok (.aload_n 0, 1) := by decide +kernel
theorem dX6_begin_21 : decode cX6_begin 21 = .ok (.iconst 0, 1) := by decide +kernel
theorem dX6_begin_22 : decode cX6_begin 22 = .ok (.putfield 81, 3) := by decide +kernel
theorem dX6_begin_25 : decode cX6_begin 25 = .ok (.aload_n 0, 1) := by decide +kernel
theorem dX6_begin_26 : decode cX6_begin 26 = .ok (.iconst 0, 1) := by decide +kernel
theorem dX6_begin_27 : decode cX6_begin 27 = .ok (.putfield 84, 3) := by decide +kernel
theorem dX6_begin_30 : decode cX6_begin 30 = .ok (.aload_n 0, 1) := by decide +kernel
theorem dX6_begin_31 : decode cX6_begin 31 = .ok (.getfield 15, 3) := by decide +kernel
theorem dX6_begin_34 : decode cX6_begin 34 = .ok (.iconst 0, 1) := by decide +kernel
theorem dX6_begin_35 : decode cX6_begin 35 = .ok (.invokestatic 87, 3) := by decide +kernel
theorem dX6_begin_38 : decode cX6_begin 38 = .ok (.aload_n 0, 1) := by decide +kernel
theorem dX6_begin_39 : decode cX6_begin 39 = .ok (.getfield 18, 3) := by decide +kernel
theorem dX6_begin_42 : decode cX6_begin 42 = .ok (.iconst 0, 1) := by decide +kernel
theorem dX6_begin_43 : decode cX6_begin 43 = .ok (.invokestatic 87, 3) := by decide +kernel
theorem dX6_begin_46 : decode cX6_begin 46 = .ok (.return_, 1) := by decide +kernel
theorem dX6_readByte_0 : decode cX6_readByte 0 = .ok (.iload_n 1, 1) := by decide +kernel
theorem dX6_readByte_1 : decode cX6_readByte 1 = .ok (.lookupswitch 97 #[(40, 67), (41, 72), (42, 83), (43, 83), (46, 89), (63, 83), (124, 77)], 67) := by decide +kernel
theorem dX6_readByte_68 : decode cX6_readByte 68 = .ok (.aload_n 0, 1) := by decide +kernel
theorem dX6_readByte_69 : decode cX6_readByte 69 = .ok (.invokevirtual 93, 3) := by decide +kernel
theorem dX6_readByte_72 : decode cX6_readByte 72 = .ok (.ireturn, 1) := by decide +kernel
theorem dX6_readByte_73 : decode cX6_readByte 73 = .ok (.aload_n 0, 1) := by decide +kernel
theorem dX6_readByte_74 : decode cX6_readByte 74 = .ok (.invokevirtual 96, 3) := by decide +kernel
theorem dX6_readByte_77 : decode cX6_readByte 77 = .ok (.ireturn, 1) := by decide +kernel
theorem dX6_readByte_78 : decode cX6_readByte 78 = .ok (.aload_n 0, 1) := by decide +kernel
theorem dX6_readByte_79 : decode cX6_readByte 79 = .ok (.invokevirtual 70, 3) := by decide +kernel
theorem dX6_readByte_82 : decode cX6_readByte 82 = .ok (.iconst 0, 1) := by decide +kernel
theorem dX6_readByte_83 : decode cX6_readByte 83 = .ok (.ireturn, 1) := by decide +kernel
theorem dX6_readByte_84 : decode cX6_readByte 84 = .ok (.aload_n 0, 1) := by decide +kernel
theorem dX6_readByte_85 : decode cX6_readByte 85 = .ok (.iload_n 1, 1) := by decide +kernel
theorem dX6_readByte_86 : decode cX6_readByte 86 = .ok (.invokevirtual 99, 3) := by decide +kernel
theorem dX6_readByte_89 : decode cX6_readByte 89 = .ok (.ireturn, 1) := by decide +kernel
theorem dX6_readByte_90 : decode cX6_readByte 90 = .ok (.aload_n 0, 1) := by decide +kernel
theorem dX6_readByte_91 : decode cX6_readByte 91 = .ok (.iconst (-1), 1) := by decide +kernel
theorem dX6_readByte_92 : decode cX6_readByte 92 = .ok (.bipush 63, 2) := by decide +kernel
theorem dX6_readByte_94 : decode cX6_readByte 94 = .ok (.invokevirtual 102, 3) := by decide +kernel
theorem dX6_readByte_97 : decode cX6_readByte 97 = .ok (.ireturn, 1) := by decide +kernel
theorem dX6_readByte_98 : decode cX6_readByte 98 = .ok (.aload_n 0, 1) := by decide +kernel
theorem dX6_readByte_99 : decode cX6_readByte 99 = .ok (.iload_n 1, 1) := by decide +kernel
theorem dX6_readByte_100 : decode cX6_readByte 100 = .ok (.bipush 97, 2) := by decide +kernel
theorem dX6_readByte_102 : decode cX6_readByte 102 = .ok (.isub, 1) := by decide +kernel
theorem dX6_readByte_103 : decode cX6_readByte 103 = .ok (.invokevirtual 106, 3) := by decide +kernel
theorem dX6_readByte_106 : decode cX6_readByte 106 = .ok (.ireturn, 1) := by decide +kernel
theorem dX6_readLetter_0 : decode cX6_readLetter 0 = .ok (.iload_n 1, 1) := by decide +kernel
theorem dX6_readLetter_1 : decode cX6_readLetter 1 = .ok (.bipush 6, 2) := by decide +kernel
theorem dX6_readLetter_3 : decode cX6_readLetter 3 = .ok (.invokestatic 109, 3) := by decide +kernel
theorem dX6_readLetter_6 : decode cX6_readLetter 6 = .ok (.ifCond .eq 14, 3) := by decide +kernel
theorem dX6_readLetter_9 : decode cX6_readLetter 9 = .ok (.aload_n 0, 1) := by decide +kernel
theorem dX6_readLetter_10 : decode cX6_readLetter 10 = .ok (.iload_n 1, 1) := by decide +kernel
theorem dX6_readLetter_11 : decode cX6_readLetter 11 = .ok (.iconst 1, 1) := by decide +kernel
theorem dX6_readLetter_12 : decode cX6_readLetter 12 = .ok (.iload_n 1, 1) := by decide +kernel
theorem dX6_readLetter_13 : decode cX6_readLetter 13 = .ok (.ishl, 1) := by decide +kernel
theorem dX6_readLetter_14 : decode cX6_readLetter 14 = .ok (.invokevirtual 102, 3) := by decide +kernel
theorem dX6_readLetter_17 : decode cX6_readLetter 17 = .ok (.goto 4, 3) := by decide +kernel
theorem dX6_readLetter_20 : decode cX6_readLetter 20 = .ok (.iconst 1, 1) := by decide +kernel
theorem dX6_readLetter_21 : decode cX6_readLetter 21 = .ok (.ireturn, 1) := by decide +kernel
theorem dX6_readPosition_0 : decode cX6_readPosition 0 = .ok (.aload_n 0, 1) := by decide +kernel
theorem dX6_readPosition_1 : decode cX6_readPosition 1 = .ok (.getfield 78, 3) := by decide +kernel
theorem dX6_readPosition_4 : decode cX6_readPosition 4 = .ok (.iconst 1, 1) := by decide +kernel
theorem dX6_readPosition_5 : decode cX6_readPosition 5 = .ok (.iadd, 1) := by decide +kernel
theorem dX6_readPosition_6 : decode cX6_readPosition 6 = .ok (.istore_n 3, 1) := by decide +kernel
theorem dX6_readPosition_7 : decode cX6_readPosition 7 = .ok (.iload_n 3, 1) := by decide +kernel
theorem dX6_readPosition_8 : decode cX6_readPosition 8 = .ok (.bipush 24, 2) := by decide +kernel
theorem dX6_readPosition_10 : decode cX6_readPosition 10 = .ok (.if_icmp .le 5, 3) := by decide +kernel
theorem dX6_readPosition_13 : decode cX6_readPosition 13 = .ok (.iconst 2, 1) := by decide +kernel
theorem dX6_readPosition_14 : decode cX6_readPosition 14 = .ok (.ireturn, 1) := by decide +kernel
theorem dX6_readPosition_15 : decode cX6_readPosition 15 = .ok (.aload_n 0, 1) := by decide +kernel
theorem dX6_readPosition_16 : decode cX6_readPosition 16 = .ok (.iload_n 3, 1) := by decide +kernel
theorem dX6_readPosition_17 : decode cX6_readPosition 17 = .ok (.putfield 78, 3) := by decide +kernel
theorem dX6_readPosition_20 : decode cX6_readPosition 20 = .ok (.aload_n 0, 1) := by decide +kernel
theorem dX6_readPosition_21 : decode cX6_readPosition 21 = .ok (.getfield 9, 3) := by decide +kernel
theorem dX6_readPosition_24 : decode cX6_readPosition 24 = .ok (.iload_n 3, 1) := by decide +kernel
theorem dX6_readPosition_25 : decode cX6_readPosition 25 = .ok (.iload_n 1, 1) := by decide +kernel
theorem dX6_readPosition_26 : decode cX6_readPosition 26 = .ok (.iastore, 1) := by decide +kernel
theorem dX6_readPosition_27 : decode cX6_readPosition 27 = .ok (.iconst 0, 1) := by decide +kernel
theorem dX6_readPosition_28 : decode cX6_readPosition 28 = .ok (.istore 4, 2) := by decide +kernel
theorem dX6_readPosition_30 : decode cX6_readPosition 30 = .ok (.iload 4, 2) := by decide +kernel
theorem dX6_readPosition_32 : decode cX6_readPosition 32 = .ok (.bipush 6, 2) := by decide +kernel
theorem dX6_readPosition_34 : decode cX6_readPosition 34 = .ok (.if_icmp .ge 31, 3) := by decide +kernel
theorem dX6_readPosition_37 : decode cX6_readPosition 37 = .ok (.iload_n 2, 1) := by decide +kernel
theorem dX6_readPosition_38 : decode cX6_readPosition 38 = .ok (.iload 4, 2) := by decide +kernel
theorem dX6_readPosition_40 : decode cX6_readPosition 40 = .ok (.ishr, 1) := by decide +kernel
theorem dX6_readPosition_41 : decode cX6_readPosition 41 = .ok (.iconst 1, 1) := by decide +kernel
theorem dX6_readPosition_42 : decode cX6_readPosition 42 = .ok (.iand, 1) := by decide +kernel
theorem dX6_readPosition_43 : decode cX6_readPosition 43 = .ok (.ifCond .eq 16, 3) := by decide +kernel
theorem dX6_readPosition_46 : decode cX6_readPosition 46 = .ok (.aload_n 0, 1) := by decide +kernel
theorem dX6_readPosition_47 : decode cX6_readPosition 47 = .ok (.getfield 18, 3) := by decide +kernel
theorem dX6_readPosition_50 : decode cX6_readPosition 50 = .ok (.iload 4, 2) := by decide +kernel
theorem dX6_readPosition_52 : decode cX6_readPosition 52 = .ok (.dup2, 1) := by decide +kernel
theorem dX6_readPosition_53 : decode cX6_readPosition 53 = .ok (.iaload, 1) := by decide +kernel
theorem dX6_readPosition_54 : decode cX6_readPosition 54 = .ok (.iconst 1, 1) := by decide +kernel
theorem dX6_readPosition_55 : decode cX6_readPosition 55 = .ok (.iload_n 3, 1) := by decide +kernel
theorem dX6_readPosition_56 : decode cX6_readPosition 56 = .ok (.ishl, 1) := by decide +kernel
theorem dX6_readPosition_57 : decode cX6_readPosition 57 = .ok (.ior, 1) := by decide +kernel
theorem dX6_readPosition_58 : decode cX6_readPosition 58 = .ok (.iastore, 1) := by decide +kernel
theorem dX6_readPosition_59 : decode cX6_readPosition 59 = .ok (.iinc 4 1, 3) := by decide +kernel
theorem dX6_readPosition_62 : decode cX6_readPosition 62 = .ok (.goto (-32), 3) := by decide +kernel
theorem dX6_readPosition_65 : decode cX6_readPosition 65 = .ok (.aload_n 0, 1) := by decide +kernel
theorem dX6_readPosition_66 : decode cX6_readPosition 66 = .ok (.invokevirtual 113, 3) := by decide +kernel
theorem dX6_readPosition_69 : decode cX6_readPosition 69 = .ok (.aload_n 0, 1) := by decide +kernel
theorem dX6_readPosition_70 : decode cX6_readPosition 70 = .ok (.getfield 40, 3) := by decide +kernel
theorem dX6_readPosition_73 : decode cX6_readPosition 73 = .ok (.iconst 0, 1) := by decide +kernel
theorem dX6_readPosition_74 : decode cX6_readPosition 74 = .ok (.iconst 1, 1) := by decide +kernel
theorem dX6_readPosition_75 : decode cX6_readPosition 75 = .ok (.iload_n 3, 1) := by decide +kernel
theorem dX6_readPosition_76 : decode cX6_readPosition 76 = .ok (.ishl, 1) := by decide +kernel
theorem dX6_readPosition_77 : decode cX6_readPosition 77 = .ok (.iconst 1, 1) := by decide +kernel
theorem dX6_readPosition_78 : decode cX6_readPosition 78 = .ok (.iload_n 3, 1) := by decide +kernel
theorem dX6_readPosition_79 : decode cX6_readPosition 79 = .ok (.ishl, 1) := by decide +kernel
theorem dX6_readPosition_80 : decode cX6_readPosition 80 = .ok (.invokevirtual 116, 3) := by decide +kernel
theorem dX6_readPosition_83 : decode cX6_readPosition 83 = .ok (.iconst 0, 1) := by decide +kernel
theorem dX6_readPosition_84 : decode cX6_readPosition 84 = .ok (.ireturn, 1) := by decide +kernel
theorem dX6_openGroup_0 : decode cX6_openGroup 0 = .ok (.aload_n 0, 1) := by decide +kernel
theorem dX6_openGroup_1 : decode cX6_openGroup 1 = .ok (.getfield 40, 3) := by decide +kernel
theorem dX6_openGroup_4 : decode cX6_openGroup 4 = .ok (.getfield 120, 3) := by decide +kernel
theorem dX6_openGroup_7 : decode cX6_openGroup 7 = .ok (.astore_n 1, 1) := by decide +kernel
theorem dX6_openGroup_8 : decode cX6_openGroup 8 = .ok (.aload_n 1, 1) := by decide +kernel
theorem dX6_openGroup_9 : decode cX6_openGroup 9 = .ok (.ifnonnull 5, 3) := by decide +kernel
theorem dX6_openGroup_12 : decode cX6_openGroup 12 = .ok (.iconst 3, 1) := by decide +kernel
theorem dX6_openGroup_13 : decode cX6_openGroup 13 = .ok (.ireturn, 1) := by decide +kernel
theorem dX6_openGroup_14 : decode cX6_openGroup 14 = .ok (.aload_n 0, 1) := by decide +kernel
theorem dX6_openGroup_15 : decode cX6_openGroup 15 = .ok (.invokevirtual 113, 3) := by decide +kernel
theorem dX6_openGroup_18 : decode cX6_openGroup 18 = .ok (.aload_n 1, 1) := by decide +kernel
theorem dX6_openGroup_19 : decode cX6_openGroup 19 = .ok (.invokevirtual 77, 3) := by decide +kernel
theorem dX6_openGroup_22 : decode cX6_openGroup 22 = .ok (.aload_n 0, 1) := by decide +kernel
theorem dX6_openGroup_23 : decode cX6_openGroup 23 = .ok (.aload_n 1, 1) := by decide +kernel
theorem dX6_openGroup_24 : decode cX6_openGroup 24 = .ok (.putfield 40, 3) := by decide +kernel
theorem dX6_openGroup_27 : decode cX6_openGroup 27 = .ok (.iconst 0, 1) := by decide +kernel
theorem dX6_openGroup_28 : decode cX6_openGroup 28 = .ok (.ireturn, 1) := by decide +kernel
theorem dX6_closeGroup_0 : decode cX6_closeGroup 0 = .ok (.aload_n 0, 1) := by decide +kernel
theorem dX6_closeGroup_1 : decode cX6_closeGroup 1 = .ok (.getfield 40, 3) := by decide +kernel
theorem dX6_closeGroup_4 : decode cX6_closeGroup 4 = .ok (.getfield 67, 3) := by decide +kernel
theorem dX6_closeGroup_7 : decode cX6_closeGroup 7 = .ok (.astore_n 1, 1) := by decide +kernel
theorem dX6_closeGroup_8 : decode cX6_closeGroup 8 = .ok (.aload_n 1, 1) := by decide +kernel
theorem dX6_closeGroup_9 : decode cX6_closeGroup 9 = .ok (.ifnonnull 5, 3) := by decide +kernel
theorem dX6_closeGroup_12 : decode cX6_closeGroup 12 = .ok (.iconst 1, 1) := by decide +kernel
theorem dX6_closeGroup_13 : decode cX6_closeGroup 13 = .ok (.ireturn, 1) := by decide +kernel
theorem dX6_closeGroup_14 : decode cX6_closeGroup 14 = .ok (.aload_n 0, 1) := by decide +kernel
theorem dX6_closeGroup_15 : decode cX6_closeGroup 15 = .ok (.invokevirtual 70, 3) := by decide +kernel
theorem dX6_closeGroup_18 : decode cX6_closeGroup 18 = .ok (.aload_n 0, 1) := by decide +kernel
theorem dX6_closeGroup_19 : decode cX6_closeGroup 19 = .ok (.getfield 40, 3) := by decide +kernel
theorem dX6_closeGroup_22 : decode cX6_closeGroup 22 = .ok (.getfield 47, 3) := by decide +kernel
theorem dX6_closeGroup_25 : decode cX6_closeGroup 25 = .ok (.astore_n 2, 1) := by decide +kernel
theorem dX6_closeGroup_26 : decode cX6_closeGroup 26 = .ok (.aload_n 1, 1) := by decide +kernel
theorem dX6_closeGroup_27 : decode cX6_closeGroup 27 = .ok (.aload_n 2, 1) := by decide +kernel
theorem dX6_closeGroup_28 : decode cX6_closeGroup 28 = .ok (.getfield 123, 3) := by decide +kernel
theorem dX6_closeGroup_31 : decode cX6_closeGroup 31 = .ok (.aload_n 2, 1) := by decide +kernel
theorem dX6_closeGroup_32 : decode cX6_closeGroup 32 = .ok (.getfield 129, 3) := by decide +kernel
theorem dX6_closeGroup_35 : decode cX6_closeGroup 35 = .ok (.aload_n 2, 1) := by decide +kernel
theorem dX6_closeGroup_36 : decode cX6_closeGroup 36 = .ok (.getfield 132, 3) := by decide +kernel
theorem dX6_closeGroup_39 : decode cX6_closeGroup 39 = .ok (.invokevirtual 116, 3) := by decide +kernel
theorem dX6_closeGroup_42 : decode cX6_closeGroup 42 = .ok (.aload_n 0, 1) := by decide +kernel
theorem dX6_closeGroup_43 : decode cX6_closeGroup 43 = .ok (.aload_n 1, 1) := by decide +kernel
theorem dX6_closeGroup_44 : decode cX6_closeGroup 44 = .ok (.putfield 40, 3) := by decide +kernel
theorem dX6_closeGroup_47 : decode cX6_closeGroup 47 = .ok (.iconst 0, 1) := by decide +kernel
theorem dX6_closeGroup_48 : decode cX6_closeGroup 48 = .ok (.ireturn, 1) := by decide +kernel
theorem dX6_readOperator_0 : decode cX6_readOperator 0 = .ok (.aload_n 0, 1) := by decide +kernel
theorem dX6_readOperator_1 : decode cX6_readOperator 1 = .ok (.getfield 40, 3) := by decide +kernel
theorem dX6_readOperator_4 : decode cX6_readOperator 4 = .ok (.getfield 135, 3) := by decide +kernel
theorem dX6_readOperator_7 : decode cX6_readOperator 7 = .ok (.ifCond .ne 5, 3) := by decide +kernel
theorem dX6_readOperator_10 : decode cX6_readOperator 10 = .ok (.iconst 1, 1) := by decide +kernel
theorem dX6_readOperator_11 : decode cX6_readOperator 11 = .ok (.ireturn, 1) := by decide +kernel
theorem dX6_readOperator_12 : decode cX6_readOperator 12 = .ok (.aload_n 0, 1) := by decide +kernel
theorem dX6_readOperator_13 : decode cX6_readOperator 13 = .ok (.getfield 40, 3) := by decide +kernel
theorem dX6_readOperator_16 : decode cX6_readOperator 16 = .ok (.getfield 138, 3) := by decide +kernel
theorem dX6_readOperator_19 : decode cX6_readOperator 19 = .ok (.astore_n 2, 1) := by decide +kernel
theorem dX6_readOperator_20 : decode cX6_readOperator 20 = .ok (.iload_n 1, 1) := by decide +kernel
theorem dX6_readOperator_21 : decode cX6_readOperator 21 = .ok (.bipush 63, 2) := by decide +kernel
theorem dX6_readOperator_23 : decode cX6_readOperator 23 = .ok (.if_icmp .eq 25, 3) := by decide +kernel
theorem dX6_readOperator_26 : decode cX6_readOperator 26 = .ok (.aload_n 0, 1) := by decide +kernel
theorem dX6_readOperator_27 : decode cX6_readOperator 27 = .ok (.dup, 1) := by decide +kernel
theorem dX6_readOperator_28 : decode cX6_readOperator 28 = .ok (.getfield 81, 3) := by decide +kernel
theorem dX6_readOperator_31 : decode cX6_readOperator 31 = .ok (.iconst 1, 1) := by decide +kernel
theorem dX6_readOperator_32 : decode cX6_readOperator 32 = .ok (.iadd, 1) := by decide +kernel
theorem dX6_readOperator_33 : decode cX6_readOperator 33 = .ok (.putfield 81, 3) := by decide +kernel
theorem dX6_readOperator_36 : decode cX6_readOperator 36 = .ok (.aload_n 0, 1) := by decide +kernel
theorem dX6_readOperator_37 : decode cX6_readOperator 37 = .ok (.aload_n 2, 1) := by decide +kernel
theorem dX6_readOperator_38 : decode cX6_readOperator 38 = .ok (.getfield 132, 3) := by decide +kernel
theorem dX6_readOperator_41 : decode cX6_readOperator 41 = .ok (.aload_n 2, 1) := by decide +kernel
theorem dX6_readOperator_42 : decode cX6_readOperator 42 = .ok (.getfield 129, 3) := by decide +kernel
theorem dX6_readOperator_45 : decode cX6_readOperator 45 = .ok (.invokevirtual 141, 3) := by decide +kernel
theorem dX6_readOperator_48 : decode cX6_readOperator 48 = .ok (.iload_n 1, 1) := by decide +kernel
theorem dX6_readOperator_49 : decode cX6_readOperator 49 = .ok (.bipush 43, 2) := by decide +kernel
theorem dX6_readOperator_51 : decode cX6_readOperator 51 = .ok (.if_icmp .eq 8, 3) := by decide +kernel
theorem dX6_readOperator_54 : decode cX6_readOperator 54 = .ok (.aload_n 2, 1) := by decide +kernel
theorem dX6_readOperator_55 : decode cX6_readOperator 55 = .ok (.iconst 1, 1) := by decide +kernel
theorem dX6_readOperator_56 : decode cX6_readOperator 56 = .ok (.putfield 123, 3) := by decide +kernel
theorem dX6_readOperator_59 : decode cX6_readOperator 59 = .ok (.iconst 0, 1) := by decide +kernel
theorem dX6_readOperator_60 : decode cX6_readOperator 60 = .ok (.ireturn, 1) := by decide +kernel
theorem dX6_endPiece_0 : decode cX6_endPiece 0 = .ok (.aload_n 0, 1) := by decide +kernel
theorem dX6_endPiece_1 : decode cX6_endPiece 1 = .ok (.getfield 40, 3) := by decide +kernel
theorem dX6_endPiece_4 : decode cX6_endPiece 4 = .ok (.getfield 135, 3) := by decide +kernel
theorem dX6_endPiece_7 : decode cX6_endPiece 7 = .ok (.ifCond .ne 4, 3) := by decide +kernel
theorem dX6_endPiece_10 : decode cX6_endPiece 10 = .ok (.return_, 1) := by decide +kernel
theorem dX6_endPiece_11 : decode cX6_endPiece 11 = .ok (.aload_n 0, 1) := by decide +kernel
theorem dX6_endPiece_12 : decode cX6_endPiece 12 = .ok (.getfield 40, 3) := by decide +kernel
theorem dX6_endPiece_15 : decode cX6_endPiece 15 = .ok (.getfield 145, 3) := by decide +kernel
theorem dX6_endPiece_18 : decode cX6_endPiece 18 = .ok (.astore_n 1, 1) := by decide +kernel
theorem dX6_endPiece_19 : decode cX6_endPiece 19 = .ok (.aload_n 0, 1) := by decide +kernel
theorem dX6_endPiece_20 : decode cX6_endPiece 20 = .ok (.getfield 40, 3) := by decide +kernel
theorem dX6_endPiece_23 : decode cX6_endPiece 23 = .ok (.getfield 138, 3) := by decide +kernel
theorem dX6_endPiece_26 : decode cX6_endPiece 26 = .ok (.astore_n 2, 1) := by decide +kernel
theorem dX6_endPiece_27 : decode cX6_endPiece 27 = .ok (.aload_n 0, 1) := by decide +kernel
theorem dX6_endPiece_28 : decode cX6_endPiece 28 = .ok (.aload_n 1, 1) := by decide +kernel
theorem dX6_endPiece_29 : decode cX6_endPiece 29 = .ok (.getfield 132, 3) := by decide +kernel
theorem dX6_endPiece_32 : decode cX6_endPiece 32 = .ok (.aload_n 2, 1) := by decide +kernel
theorem dX6_endPiece_33 : decode cX6_endPiece 33 = .ok (.getfield 129, 3) := by decide +kernel
theorem dX6_endPiece_36 : decode cX6_endPiece 36 = .ok (.invokevirtual 141, 3) := by decide +kernel
theorem dX6_endPiece_39 : decode cX6_endPiece 39 = .ok (.aload_n 1, 1) := by decide +kernel
theorem dX6_endPiece_40 : decode cX6_endPiece 40 = .ok (.getfield 123, 3) := by decide +kernel
theorem dX6_endPiece_43 : decode cX6_endPiece 43 = .ok (.ifCond .eq 15, 3) := by decide +kernel
theorem dX6_endPiece_46 : decode cX6_endPiece 46 = .ok (.aload_n 1, 1) := by decide +kernel
theorem dX6_endPiece_47 : decode cX6_endPiece 47 = .ok (.getfield 129, 3) := by decide +kernel
theorem dX6_endPiece_50 : decode cX6_endPiece 50 = .ok (.aload_n 2, 1) := by decide +kernel
theorem dX6_endPiece_51 : decode cX6_endPiece 51 = .ok (.getfield 129, 3) := by decide +kernel
theorem dX6_endPiece_54 : decode cX6_endPiece 54 = .ok (.ior, 1) := by decide +kernel
theorem dX6_endPiece_55 : decode cX6_endPiece 55 = .ok (.goto 7, 3) := by decide +kernel
theorem dX6_endPiece_58 : decode cX6_endPiece 58 = .ok (.aload_n 1, 1) := by decide +kernel
theorem dX6_endPiece_59 : decode cX6_endPiece 59 = .ok (.getfield 129, 3) := by decide +kernel
theorem dX6_endPiece_62 : decode cX6_endPiece 62 = .ok (.istore_n 3, 1) := by decide +kernel
theorem dX6_endPiece_63 : decode cX6_endPiece 63 = .ok (.aload_n 2, 1) := by decide +kernel
theorem dX6_endPiece_64 : decode cX6_endPiece 64 = .ok (.getfield 123, 3) := by decide +kernel
theorem dX6_endPiece_67 : decode cX6_endPiece 67 = .ok (.ifCond .eq 15, 3) := by decide +kernel
theorem dX6_endPiece_70 : decode cX6_endPiece 70 = .ok (.aload_n 1, 1) := by decide +kernel
theorem dX6_endPiece_71 : decode cX6_endPiece 71 = .ok (.getfield 132, 3) := by decide +kernel
theorem dX6_endPiece_74 : decode cX6_endPiece 74 = .ok (.aload_n 2, 1) := by decide +kernel
theorem dX6_endPiece_75 : decode cX6_endPiece 75 = .ok (.getfield 132, 3) := by decide +kernel
theorem dX6_endPiece_78 : decode cX6_endPiece 78 = .ok (.ior, 1) := by decide +kernel
theorem dX6_endPiece_79 : decode cX6_endPiece 79 = .ok (.goto 7, 3) := by decide +kernel
theorem dX6_endPiece_82 : decode cX6_endPiece 82 = .ok (.aload_n 2, 1) := by decide +kernel
theorem dX6_endPiece_83 : decode cX6_endPiece 83 = .ok (.getfield 132, 3) := by decide +kernel
theorem dX6_endPiece_86 : decode cX6_endPiece 86 = .ok (.istore 4, 2) := by decide +kernel
theorem dX6_endPiece_88 : decode cX6_endPiece 88 = .ok (.aload_n 1, 1) := by decide +kernel
theorem dX6_endPiece_89 : decode cX6_endPiece 89 = .ok (.aload_n 1, 1) := by decide +kernel
theorem dX6_endPiece_90 : decode cX6_endPiece 90 = .ok (.getfield 123, 3) := by decide +kernel
theorem dX6_endPiece_93 : decode cX6_endPiece 93 = .ok (.ifCond .eq 14, 3) := by decide +kernel
theorem dX6_endPiece_96 : decode cX6_endPiece 96 = .ok (.aload_n 2, 1) := by decide +kernel
theorem dX6_endPiece_97 : decode cX6_endPiece 97 = .ok (.getfield 123, 3) := by decide +kernel
theorem dX6_endPiece_100 : decode cX6_endPiece 100 = .ok (.ifCond .eq 7, 3) := by decide +kernel
theorem dX6_endPiece_103 : decode cX6_endPiece 103 = .ok (.iconst 1, 1) := by decide +kernel
theorem dX6_endPiece_104 : decode cX6_endPiece 104 = .ok (.goto 4, 3) := by decide +kernel
theorem dX6_endPiece_107 : decode cX6_endPiece 107 = .ok (.iconst 0, 1) := by decide +kernel
theorem dX6_endPiece_108 : decode cX6_endPiece 108 = .ok (.iload_n 3, 1) := by decide +kernel
theorem dX6_endPiece_109 : decode cX6_endPiece 109 = .ok (.iload 4, 2) := by decide +kernel
theorem dX6_endPiece_111 : decode cX6_endPiece 111 = .ok (.invokevirtual 148, 3) := by decide +kernel
theorem dX6_endPiece_114 : decode cX6_endPiece 114 = .ok (.aload_n 0, 1) := by decide +kernel
theorem dX6_endPiece_115 : decode cX6_endPiece 115 = .ok (.getfield 40, 3) := by decide +kernel
theorem dX6_endPiece_118 : decode cX6_endPiece 118 = .ok (.iconst 0, 1) := by decide +kernel
theorem dX6_endPiece_119 : decode cX6_endPiece 119 = .ok (.putfield 135, 3) := by decide +kernel
theorem dX6_endPiece_122 : decode cX6_endPiece 122 = .ok (.return_, 1) := by decide +kernel
theorem dX6_endBranch_0 : decode cX6_endBranch 0 = .ok (.aload_n 0, 1) := by decide +kernel
theorem dX6_endBranch_1 : decode cX6_endBranch 1 = .ok (.invokevirtual 113, 3) := by decide +kernel
theorem dX6_endBranch_4 : decode cX6_endBranch 4 = .ok (.aload_n 0, 1) := by decide +kernel
theorem dX6_endBranch_5 : decode cX6_endBranch 5 = .ok (.getfield 40, 3) := by decide +kernel
theorem dX6_endBranch_8 : decode cX6_endBranch 8 = .ok (.getfield 47, 3) := by decide +kernel
theorem dX6_endBranch_11 : decode cX6_endBranch 11 = .ok (.astore_n 1, 1) := by decide +kernel
theorem dX6_endBranch_12 : decode cX6_endBranch 12 = .ok (.aload_n 0, 1) := by decide +kernel
theorem dX6_endBranch_13 : decode cX6_endBranch 13 = .ok (.getfield 40, 3) := by decide +kernel
theorem dX6_endBranch_16 : decode cX6_endBranch 16 = .ok (.getfield 145, 3) := by decide +kernel
theorem dX6_endBranch_19 : decode cX6_endBranch 19 = .ok (.astore_n 2, 1) := by decide +kernel
theorem dX6_endBranch_20 : decode cX6_endBranch 20 = .ok (.aload_n 1, 1) := by decide +kernel
theorem dX6_endBranch_21 : decode cX6_endBranch 21 = .ok (.aload_n 1, 1) := by decide +kernel
theorem dX6_endBranch_22 : decode cX6_endBranch 22 = .ok (.getfield 123, 3) := by decide +kernel
theorem dX6_endBranch_25 : decode cX6_endBranch 25 = .ok (.ifCond .ne 10, 3) := by decide +kernel
theorem dX6_endBranch_28 : decode cX6_endBranch 28 = .ok (.aload_n 2, 1) := by decide +kernel
theorem dX6_endBranch_29 : decode cX6_endBranch 29 = .ok (.getfield 123, 3) := by decide +kernel
theorem dX6_endBranch_32 : decode cX6_endBranch 32 = .ok (.ifCond .eq 7, 3) := by decide +kernel
theorem dX6_endBranch_35 : decode cX6_endBranch 35 = .ok (.iconst 1, 1) := by decide +kernel
theorem dX6_endBranch_36 : decode cX6_endBranch 36 = .ok (.goto 4, 3) := by decide +kernel
theorem dX6_endBranch_39 : decode cX6_endBranch 39 = .ok (.iconst 0, 1) := by decide +kernel
theorem dX6_endBranch_40 : decode cX6_endBranch 40 = .ok (.aload_n 1, 1) := by decide +kernel
theorem dX6_endBranch_41 : decode cX6_endBranch 41 = .ok (.getfield 129, 3) := by decide +kernel
theorem dX6_endBranch_44 : decode cX6_endBranch 44 = .ok (.aload_n 2, 1) := by decide +kernel
theorem dX6_endBranch_45 : decode cX6_endBranch 45 = .ok (.getfield 129, 3) := by decide +kernel
theorem dX6_endBranch_48 : decode cX6_endBranch 48 = .ok (.ior, 1) := by decide +kernel
theorem dX6_endBranch_49 : decode cX6_endBranch 49 = .ok (.aload_n 1, 1) := by decide +kernel
theorem dX6_endBranch_50 : decode cX6_endBranch 50 = .ok (.getfield 132, 3) := by decide +kernel
theorem dX6_endBranch_53 : decode cX6_endBranch 53 = .ok (.aload_n 2, 1) := by decide +kernel
theorem dX6_endBranch_54 : decode cX6_endBranch 54 = .ok (.getfield 132, 3) := by decide +kernel
theorem dX6_endBranch_57 : decode cX6_endBranch 57 = .ok (.ior, 1) := by decide +kernel
theorem dX6_endBranch_58 : decode cX6_endBranch 58 = .ok (.invokevirtual 148, 3) := by decide +kernel
theorem dX6_endBranch_61 : decode cX6_endBranch 61 = .ok (.aload_n 0, 1) := by decide +kernel
theorem dX6_endBranch_62 : decode cX6_endBranch 62 = .ok (.getfield 40, 3) := by decide +kernel
theorem dX6_endBranch_65 : decode cX6_endBranch 65 = .ok (.invokevirtual 151, 3) := by decide +kernel
theorem dX6_endBranch_68 : decode cX6_endBranch 68 = .ok (.return_, 1) := by decide +kernel
theorem dX6_addFollow_0 : decode cX6_addFollow 0 = .ok (.iconst 1, 1) := by decide +kernel
theorem dX6_addFollow_1 : decode cX6_addFollow 1 = .ok (.istore_n 3, 1) := by decide +kernel
theorem dX6_addFollow_2 : decode cX6_addFollow 2 = .ok (.iload_n 3, 1) := by decide +kernel
theorem dX6_addFollow_3 : decode cX6_addFollow 3 = .ok (.bipush 24, 2) := by decide +kernel
theorem dX6_addFollow_5 : decode cX6_addFollow 5 = .ok (.if_icmp .gt 27, 3) := by decide +kernel
theorem dX6_addFollow_8 : decode cX6_addFollow 8 = .ok (.iload_n 1, 1) := by decide +kernel
theorem dX6_addFollow_9 : decode cX6_addFollow 9 = .ok (.iload_n 3, 1) := by decide +kernel
theorem dX6_addFollow_10 : decode cX6_addFollow 10 = .ok (.ishr, 1) := by decide +kernel
theorem dX6_addFollow_11 : decode cX6_addFollow 11 = .ok (.iconst 1, 1) := by decide +kernel
theorem dX6_addFollow_12 : decode cX6_addFollow 12 = .ok (.iand, 1) := by decide +kernel
theorem dX6_addFollow_13 : decode cX6_addFollow 13 = .ok (.ifCond .eq 13, 3) := by decide +kernel
theorem dX6_addFollow_16 : decode cX6_addFollow 16 = .ok (.aload_n 0, 1) := by decide +kernel
theorem dX6_addFollow_17 : decode cX6_addFollow 17 = .ok (.getfield 15, 3) := by decide +kernel
theorem dX6_addFollow_20 : decode cX6_addFollow 20 = .ok (.iload_n 3, 1) := by decide +kernel
theorem dX6_addFollow_21 : decode cX6_addFollow 21 = .ok (.dup2, 1) := by decide +kernel
theorem dX6_addFollow_22 : decode cX6_addFollow 22 = .ok (.iaload, 1) := by decide +kernel
theorem dX6_addFollow_23 : decode cX6_addFollow 23 = .ok (.iload_n 2, 1) := by decide +kernel
theorem dX6_addFollow_24 : decode cX6_addFollow 24 = .ok (.ior, 1) := by decide +kernel
theorem dX6_addFollow_25 : decode cX6_addFollow 25 = .ok (.iastore, 1) := by decide +kernel
theorem dX6_addFollow_26 : decode cX6_addFollow 26 = .ok (.iinc 3 1, 3) := by decide +kernel
theorem dX6_addFollow_29 : decode cX6_addFollow 29 = .ok (.goto (-27), 3) := by decide +kernel
theorem dX6_addFollow_32 : decode cX6_addFollow 32 = .ok (.return_, 1) := by decide +kernel
theorem dX6_findStates_0 : decode cX6_findStates 0 = .ok (.aload_n 0, 1) := by decide +kernel
theorem dX6_findStates_1 : decode cX6_findStates 1 = .ok (.iconst 1, 1) := by decide +kernel
theorem dX6_findStates_2 : decode cX6_findStates 2 = .ok (.invokevirtual 154, 3) := by decide +kernel
theorem dX6_findStates_5 : decode cX6_findStates 5 = .ok (.pop, 1) := by decide +kernel
theorem dX6_findStates_6 : decode cX6_findStates 6 = .ok (.iconst 0, 1) := by decide +kernel
theorem dX6_findStates_7 : decode cX6_findStates 7 = .ok (.istore_n 1, 1) := by decide +kernel
theorem dX6_findStates_8 : decode cX6_findStates 8 = .ok (.iload_n 1, 1) := by decide +kernel
theorem dX6_findStates_9 : decode cX6_findStates 9 = .ok (.bipush 60, 2) := by decide +kernel
theorem dX6_findStates_11 : decode cX6_findStates 11 = .ok (.if_icmp .ge 77, 3) := by decide +kernel
theorem dX6_findStates_14 : decode cX6_findStates 14 = .ok (.iload_n 1, 1) := by decide +kernel
theorem dX6_findStates_15 : decode cX6_findStates 15 = .ok (.aload_n 0, 1) := by decide +kernel
theorem dX6_findStates_16 : decode cX6_findStates 16 = .ok (.getfield 84, 3) := by decide +kernel
theorem dX6_findStates_19 : decode cX6_findStates 19 = .ok (.if_icmp .ge 69, 3) := by decide +kernel
theorem dX6_findStates_22 : decode cX6_findStates 22 = .ok (.aload_n 0, 1) := by decide +kernel
theorem dX6_findStates_23 : decode cX6_findStates 23 = .ok (.aload_n 0, 1) := by decide +kernel
theorem dX6_findStates_24 : decode cX6_findStates 24 = .ok (.getfield 21, 3) := by decide +kernel
theorem dX6_findStates_27 : decode cX6_findStates 27 = .ok (.iload_n 1, 1) := by decide +kernel
theorem dX6_findStates_28 : decode cX6_findStates 28 = .ok (.iaload, 1) := by decide +kernel
theorem dX6_findStates_29 : decode cX6_findStates 29 = .ok (.invokevirtual 157, 3) := by decide +kernel
theorem dX6_findStates_32 : decode cX6_findStates 32 = .ok (.istore_n 2, 1) := by decide +kernel
theorem dX6_findStates_33 : decode cX6_findStates 33 = .ok (.iconst 0, 1) := by decide +kernel
theorem dX6_findStates_34 : decode cX6_findStates 34 = .ok (.istore_n 3, 1) := by decide +kernel
theorem dX6_findStates_35 : decode cX6_findStates 35 = .ok (.iload_n 3, 1) := by decide +kernel
theorem dX6_findStates_36 : decode cX6_findStates 36 = .ok (.bipush 6, 2) := by decide +kernel
theorem dX6_findStates_38 : decode cX6_findStates 38 = .ok (.if_icmp .ge 44, 3) := by decide +kernel
theorem dX6_findStates_41 : decode cX6_findStates 41 = .ok (.aload_n 0, 1) := by decide +kernel
theorem dX6_findStates_42 : decode cX6_findStates 42 = .ok (.iload_n 2, 1) := by decide +kernel
theorem dX6_findStates_43 : decode cX6_findStates 43 = .ok (.aload_n 0, 1) := by decide +kernel
theorem dX6_findStates_44 : decode cX6_findStates 44 = .ok (.getfield 18, 3) := by decide +kernel
theorem dX6_findStates_47 : decode cX6_findStates 47 = .ok (.iload_n 3, 1) := by decide +kernel
theorem dX6_findStates_48 : decode cX6_findStates 48 = .ok (.iaload, 1) := by decide +kernel
theorem dX6_findStates_49 : decode cX6_findStates 49 = .ok (.iand, 1) := by decide +kernel
theorem dX6_findStates_50 : decode cX6_findStates 50 = .ok (.invokevirtual 154, 3) := by decide +kernel
theorem dX6_findStates_53 : decode cX6_findStates 53 = .ok (.istore 4, 2) := by decide +kernel
theorem dX6_findStates_55 : decode cX6_findStates 55 = .ok (.iload 4, 2) := by decide +kernel
theorem dX6_findStates_57 : decode cX6_findStates 57 = .ok (.iconst (-1), 1) := by decide +kernel
theorem dX6_findStates_58 : decode cX6_findStates 58 = .ok (.if_icmp .ne 5, 3) := by decide +kernel
theorem dX6_findStates_61 : decode cX6_findStates 61 = .ok (.iconst 0, 1) := by decide +kernel
theorem dX6_findStates_62 : decode cX6_findStates 62 = .ok (.ireturn, 1) := by decide +kernel
theorem dX6_findStates_63 : decode cX6_findStates 63 = .ok (.aload_n 0, 1) := by decide +kernel
theorem dX6_findStates_64 : decode cX6_findStates 64 = .ok (.getfield 24, 3) := by decide +kernel
theorem dX6_findStates_67 : decode cX6_findStates 67 = .ok (.iload_n 1, 1) := by decide +kernel
theorem dX6_findStates_68 : decode cX6_findStates 68 = .ok (.bipush 6, 2) := by decide +kernel
theorem dX6_findStates_70 : decode cX6_findStates 70 = .ok (.imul, 1) := by decide +kernel
theorem dX6_findStates_71 : decode cX6_findStates 71 = .ok (.iload_n 3, 1) := by decide +kernel
theorem dX6_findStates_72 : decode cX6_findStates 72 = .ok (.iadd, 1) := by decide +kernel
theorem dX6_findStates_73 : decode cX6_findStates 73 = .ok (.iload 4, 2) := by decide +kernel
theorem dX6_findStates_75 : decode cX6_findStates 75 = .ok (.iastore, 1) := by decide +kernel
theorem dX6_findStates_76 : decode cX6_findStates 76 = .ok (.iinc 3 1, 3) := by decide +kernel
theorem dX6_findStates_79 : decode cX6_findStates 79 = .ok (.goto (-44), 3) := by decide +kernel
theorem dX6_findStates_82 : decode cX6_findStates 82 = .ok (.iinc 1 1, 3) := by decide +kernel
theorem dX6_findStates_85 : decode cX6_findStates 85 = .ok (.goto (-77), 3) := by decide +kernel
theorem dX6_findStates_88 : decode cX6_findStates 88 = .ok (.iconst 1, 1) := by decide +kernel
theorem dX6_findStates_89 : decode cX6_findStates 89 = .ok (.ireturn, 1) := by decide +kernel
theorem dX6_positionsAfter_0 : decode cX6_positionsAfter 0 = .ok (.iload_n 1, 1) := by decide +kernel
theorem dX6_positionsAfter_1 : decode cX6_positionsAfter 1 = .ok (.iconst 1, 1) := by decide +kernel
theorem dX6_positionsAfter_2 : decode cX6_positionsAfter 2 = .ok (.if_icmp .ne 11, 3) := by decide +kernel
theorem dX6_positionsAfter_5 : decode cX6_positionsAfter 5 = .ok (.aload_n 0, 1) := by decide +kernel
theorem dX6_positionsAfter_6 : decode cX6_positionsAfter 6 = .ok (.invokevirtual 160, 3) := by decide +kernel
theorem dX6_positionsAfter_9 : decode cX6_positionsAfter 9 = .ok (.getfield 129, 3) := by decide +kernel
theorem dX6_positionsAfter_12 : decode cX6_positionsAfter 12 = .ok (.ireturn, 1) := by decide +kernel
theorem dX6_positionsAfter_13 : decode cX6_positionsAfter 13 = .ok (.iconst 0, 1) := by decide +kernel
theorem dX6_positionsAfter_14 : decode cX6_positionsAfter 14 = .ok (.istore_n 2, 1) := by decide +kernel
theorem dX6_positionsAfter_15 : decode cX6_positionsAfter 15 = .ok (.iconst 1, 1) := by decide +kernel
theorem dX6_positionsAfter_16 : decode cX6_positionsAfter 16 = .ok (.istore_n 3, 1) := by decide +kernel
theorem dX6_positionsAfter_17 : decode cX6_positionsAfter 17 = .ok (.iload_n 3, 1) := by decide +kernel
theorem dX6_positionsAfter_18 : decode cX6_positionsAfter 18 = .ok (.bipush 24, 2) := by decide +kernel
theorem dX6_positionsAfter_20 : decode cX6_positionsAfter 20 = .ok (.if_icmp .gt 26, 3) := by decide +kernel
theorem dX6_positionsAfter_23 : decode cX6_positionsAfter 23 = .ok (.iload_n 1, 1) := by decide +kernel
theorem dX6_positionsAfter_24 : decode cX6_positionsAfter 24 = .ok (.iload_n 3, 1) := by decide +kernel
theorem dX6_positionsAfter_25 : decode cX6_positionsAfter 25 = .ok (.ishr, 1) := by decide +kernel
theorem dX6_positionsAfter_26 : decode cX6_positionsAfter 26 = .ok (.iconst 1, 1) := by decide +kernel
theorem dX6_positionsAfter_27 : decode cX6_positionsAfter 27 = .ok (.iand, 1) := by decide +kernel
theorem dX6_positionsAfter_28 : decode cX6_positionsAfter 28 = .ok (.ifCond .eq 12, 3) := by decide +kernel
theorem dX6_positionsAfter_31 : decode cX6_positionsAfter 31 = .ok (.iload_n 2, 1) := by decide +kernel
theorem dX6_positionsAfter_32 : decode cX6_positionsAfter 32 = .ok (.aload_n 0, 1) := by decide +kernel
theorem dX6_positionsAfter_33 : decode cX6_positionsAfter 33 = .ok (.getfield 15, 3) := by decide +kernel
theorem dX6_positionsAfter_36 : decode cX6_positionsAfter 36 = .ok (.iload_n 3, 1) := by decide +kernel
theorem dX6_positionsAfter_37 : decode cX6_positionsAfter 37 = .ok (.iaload, 1) := by decide +kernel
theorem dX6_positionsAfter_38 : decode cX6_positionsAfter 38 = .ok (.ior, 1) := by decide +kernel
theorem dX6_positionsAfter_39 : decode cX6_positionsAfter 39 = .ok (.istore_n 2, 1) := by decide +kernel
theorem dX6_positionsAfter_40 : decode cX6_positionsAfter 40 = .ok (.iinc 3 1, 3) := by decide +kernel
theorem dX6_positionsAfter_43 : decode cX6_positionsAfter 43 = .ok (.goto (-26), 3) := by decide +kernel
theorem dX6_positionsAfter_46 : decode cX6_positionsAfter 46 = .ok (.iload_n 2, 1) := by decide +kernel
theorem dX6_positionsAfter_47 : decode cX6_positionsAfter 47 = .ok (.ireturn, 1) := by decide +kernel
theorem dX6_stateOfSet_0 : decode cX6_stateOfSet 0 = .ok (.iconst 0, 1) := by decide +kernel
theorem dX6_stateOfSet_1 : decode cX6_stateOfSet 1 = .ok (.istore_n 2, 1) := by decide +kernel
theorem dX6_stateOfSet_2 : decode cX6_stateOfSet 2 = .ok (.iload_n 2, 1) := by decide +kernel
theorem dX6_stateOfSet_3 : decode cX6_stateOfSet 3 = .ok (.bipush 60, 2) := by decide +kernel
theorem dX6_stateOfSet_5 : decode cX6_stateOfSet 5 = .ok (.if_icmp .ge 29, 3) := by decide +kernel
theorem dX6_stateOfSet_8 : decode cX6_stateOfSet 8 = .ok (.iload_n 2, 1) := by decide +kernel
theorem dX6_stateOfSet_9 : decode cX6_stateOfSet 9 = .ok (.aload_n 0, 1) := by decide +kernel
theorem dX6_stateOfSet_10 : decode cX6_stateOfSet 10 = .ok (.getfield 84, 3) := by decide +kernel
theorem dX6_stateOfSet_13 : decode cX6_stateOfSet 13 = .ok (.if_icmp .ge 21, 3) := by decide +kernel
theorem dX6_stateOfSet_16 : decode cX6_stateOfSet 16 = .ok (.aload_n 0, 1) := by decide +kernel
theorem dX6_stateOfSet_17 : decode cX6_stateOfSet 17 = .ok (.getfield 21, 3) := by decide +kernel
theorem dX6_stateOfSet_20 : decode cX6_stateOfSet 20 = .ok (.iload_n 2, 1) := by decide +kernel
theorem dX6_stateOfSet_21 : decode cX6_stateOfSet 21 = .ok (.iaload, 1) := by decide +kernel
theorem dX6_stateOfSet_22 : decode cX6_stateOfSet 22 = .ok (.iload_n 1, 1) := by decide +kernel
theorem dX6_stateOfSet_23 : decode cX6_stateOfSet 23 = .ok (.if_icmp .ne 5, 3) := by decide +kernel
theorem dX6_stateOfSet_26 : decode cX6_stateOfSet 26 = .ok (.iload_n 2, 1) := by decide +kernel
theorem dX6_stateOfSet_27 : decode cX6_stateOfSet 27 = .ok (.ireturn, 1) := by decide +kernel
theorem dX6_stateOfSet_28 : decode cX6_stateOfSet 28 = .ok (.iinc 2 1, 3) := by decide +kernel
theorem dX6_stateOfSet_31 : decode cX6_stateOfSet 31 = .ok (.goto (-29), 3) := by decide +kernel
theorem dX6_stateOfSet_34 : decode cX6_stateOfSet 34 = .ok (.aload_n 0, 1) := by decide +kernel
theorem dX6_stateOfSet_35 : decode cX6_stateOfSet 35 = .ok (.getfield 84, 3) := by decide +kernel
theorem dX6_stateOfSet_38 : decode cX6_stateOfSet 38 = .ok (.bipush 60, 2) := by decide +kernel
theorem dX6_stateOfSet_40 : decode cX6_stateOfSet 40 = .ok (.invokestatic 109, 3) := by decide +kernel
theorem dX6_stateOfSet_43 : decode cX6_stateOfSet 43 = .ok (.ifCond .ne 5, 3) := by decide +kernel
theorem dX6_stateOfSet_46 : decode cX6_stateOfSet 46 = .ok (.iconst (-1), 1) := by decide +kernel
theorem dX6_stateOfSet_47 : decode cX6_stateOfSet 47 = .ok (.ireturn, 1) := by decide +kernel
theorem dX6_stateOfSet_48 : decode cX6_stateOfSet 48 = .ok (.aload_n 0, 1) := by decide +kernel
theorem dX6_stateOfSet_49 : decode cX6_stateOfSet 49 = .ok (.getfield 21, 3) := by decide +kernel
theorem dX6_stateOfSet_52 : decode cX6_stateOfSet 52 = .ok (.aload_n 0, 1) := by decide +kernel
theorem dX6_stateOfSet_53 : decode cX6_stateOfSet 53 = .ok (.getfield 84, 3) := by decide +kernel
theorem dX6_stateOfSet_56 : decode cX6_stateOfSet 56 = .ok (.iload_n 1, 1) := by decide +kernel
theorem dX6_stateOfSet_57 : decode cX6_stateOfSet 57 = .ok (.iastore, 1) := by decide +kernel
theorem dX6_stateOfSet_58 : decode cX6_stateOfSet 58 = .ok (.aload_n 0, 1) := by decide +kernel
theorem dX6_stateOfSet_59 : decode cX6_stateOfSet 59 = .ok (.dup, 1) := by decide +kernel
theorem dX6_stateOfSet_60 : decode cX6_stateOfSet 60 = .ok (.getfield 84, 3) := by decide +kernel
theorem dX6_stateOfSet_63 : decode cX6_stateOfSet 63 = .ok (.iconst 1, 1) := by decide +kernel
theorem dX6_stateOfSet_64 : decode cX6_stateOfSet 64 = .ok (.iadd, 1) := by decide +kernel
theorem dX6_stateOfSet_65 : decode cX6_stateOfSet 65 = .ok (.putfield 84, 3) := by decide +kernel
theorem dX6_stateOfSet_68 : decode cX6_stateOfSet 68 = .ok (.aload_n 0, 1) := by decide +kernel
theorem dX6_stateOfSet_69 : decode cX6_stateOfSet 69 = .ok (.getfield 84, 3) := by decide +kernel
theorem dX6_stateOfSet_72 : decode cX6_stateOfSet 72 = .ok (.iconst 1, 1) := by decide +kernel
theorem dX6_stateOfSet_73 : decode cX6_stateOfSet 73 = .ok (.isub, 1) := by decide +kernel
theorem dX6_stateOfSet_74 : decode cX6_stateOfSet 74 = .ok (.ireturn, 1) := by decide +kernel
theorem dX7_init_0 : decode cX7_init 0 = .ok (.aload_n 0, 1) := by decide +kernel
theorem dX7_init_1 : decode cX7_init 1 = .ok (.invokespecial 3, 3) := by decide +kernel
theorem dX7_init_4 : decode cX7_init 4 = .ok (.aload_n 0, 1) := by decide +kernel
theorem dX7_init_5 : decode cX7_init 5 = .ok (.bipush 60, 2) := by decide +kernel
theorem dX7_init_7 : decode cX7_init 7 = .ok (.newarray .int, 2) := by decide +kernel
theorem dX7_init_9 : decode cX7_init 9 = .ok (.putfield 9, 3) := by decide +kernel
theorem dX7_init_12 : decode cX7_init 12 = .ok (.aload_n 0, 1) := by decide +kernel
theorem dX7_init_13 : decode cX7_init 13 = .ok (.bipush 60, 2) := by decide +kernel
theorem dX7_init_15 : decode cX7_init 15 = .ok (.newarray .int, 2) := by decide +kernel
theorem dX7_init_17 : decode cX7_init 17 = .ok (.putfield 15, 3) := by decide +kernel
theorem dX7_init_20 : decode cX7_init 20 = .ok (.aload_n 0, 1) := by decide +kernel
theorem dX7_init_21 : decode cX7_init 21 = .ok (.bipush 60, 2) := by decide +kernel
theorem dX7_init_23 : decode cX7_init 23 = .ok (.newarray .int, 2) := by decide +kernel
theorem dX7_init_25 : decode cX7_init 25 = .ok (.putfield 18, 3) := by decide +kernel
theorem dX7_init_28 : decode cX7_init 28 = .ok (.return_, 1) := by decide +kernel
theorem dX8_init_0 : decode cX8_init 0 = .ok (.aload_n 0, 1) := by decide +kernel
theorem dX8_init_1 : decode cX8_init 1 = .ok (.invokespecial 3, 3) := by decide +kernel
theorem dX8_init_4 : decode cX8_init 4 = .ok (.aload_n 0, 1) := by decide +kernel
theorem dX8_init_5 : decode cX8_init 5 = .ok (.sipush 1260, 3) := by decide +kernel
theorem dX8_init_8 : decode cX8_init 8 = .ok (.newarray .long, 2) := by decide +kernel
theorem dX8_init_10 : decode cX8_init 10 = .ok (.putfield 9, 3) := by decide +kernel
theorem dX8_init_13 : decode cX8_init 13 = .ok (.return_, 1) := by decide +kernel
theorem dX8_fill_0 : decode cX8_fill 0 = .ok (.iconst 0, 1) := by decide +kernel
theorem dX8_fill_1 : decode cX8_fill 1 = .ok (.istore_n 3, 1) := by decide +kernel
theorem dX8_fill_2 : decode cX8_fill 2 = .ok (.iload_n 3, 1) := by decide +kernel
theorem dX8_fill_3 : decode cX8_fill 3 = .ok (.aload_n 1, 1) := by decide +kernel
theorem dX8_fill_4 : decode cX8_fill 4 = .ok (.getfield 15, 3) := by decide +kernel
theorem dX8_fill_7 : decode cX8_fill 7 = .ok (.if_icmp .ge 28, 3) := by decide +kernel
theorem dX8_fill_10 : decode cX8_fill 10 = .ok (.aload_n 0, 1) := by decide +kernel
theorem dX8_fill_11 : decode cX8_fill 11 = .ok (.iload_n 3, 1) := by decide +kernel
theorem dX8_fill_12 : decode cX8_fill 12 = .ok (.iconst 0, 1) := by decide +kernel
theorem dX8_fill_13 : decode cX8_fill 13 = .ok (.aload_n 1, 1) := by decide +kernel
theorem dX8_fill_14 : decode cX8_fill 14 = .ok (.iload_n 3, 1) := by decide +kernel
theorem dX8_fill_15 : decode cX8_fill 15 = .ok (.invokevirtual 21, 3) := by decide +kernel
theorem dX8_fill_18 : decode cX8_fill 18 = .ok (.ifCond .eq 7, 3) := by decide +kernel
theorem dX8_fill_21 : decode cX8_fill 21 = .ok (.lconst 1, 1) := by decide +kernel
theorem dX8_fill_22 : decode cX8_fill 22 = .ok (.goto 4, 3) := by decide +kernel
theorem dX8_fill_25 : decode cX8_fill 25 = .ok (.lconst 0, 1) := by decide +kernel
theorem dX8_fill_26 : decode cX8_fill 26 = .ok (.invokevirtual 25, 3) := by decide +kernel
theorem dX8_fill_29 : decode cX8_fill 29 = .ok (.iinc 3 1, 3) := by decide +kernel
theorem dX8_fill_32 : decode cX8_fill 32 = .ok (.goto (-30), 3) := by decide +kernel
theorem dX8_fill_35 : decode cX8_fill 35 = .ok (.iconst 1, 1) := by decide +kernel
theorem dX8_fill_36 : decode cX8_fill 36 = .ok (.istore_n 3, 1) := by decide +kernel
theorem dX8_fill_37 : decode cX8_fill 37 = .ok (.iload_n 3, 1) := by decide +kernel
theorem dX8_fill_38 : decode cX8_fill 38 = .ok (.iload_n 2, 1) := by decide +kernel
theorem dX8_fill_39 : decode cX8_fill 39 = .ok (.if_icmp .gt 46, 3) := by decide +kernel
theorem dX8_fill_42 : decode cX8_fill 42 = .ok (.iconst 0, 1) := by decide +kernel
theorem dX8_fill_43 : decode cX8_fill 43 = .ok (.istore 4, 2) := by decide +kernel
theorem dX8_fill_45 : decode cX8_fill 45 = .ok (.iload 4, 2) := by decide +kernel
theorem dX8_fill_47 : decode cX8_fill 47 = .ok (.aload_n 1, 1) := by decide +kernel
theorem dX8_fill_48 : decode cX8_fill 48 = .ok (.getfield 15, 3) := by decide +kernel
theorem dX8_fill_51 : decode cX8_fill 51 = .ok (.if_icmp .ge 28, 3) := by decide +kernel
theorem dX8_fill_54 : decode cX8_fill 54 = .ok (.aload_n 0, 1) := by decide +kernel
theorem dX8_fill_55 : decode cX8_fill 55 = .ok (.iload 4, 2) := by decide +kernel
theorem dX8_fill_57 : decode cX8_fill 57 = .ok (.iload_n 3, 1) := by decide +kernel
theorem dX8_fill_58 : decode cX8_fill 58 = .ok (.aload_n 0, 1) := by decide +kernel
theorem dX8_fill_59 : decode cX8_fill 59 = .ok (.aload_n 1, 1) := by decide +kernel
theorem dX8_fill_60 : decode cX8_fill 60 = .ok (.iload 4, 2) := by decide +kernel
theorem dX8_fill_62 : decode cX8_fill 62 = .ok (.iload_n 3, 1) := by decide +kernel
theorem dX8_fill_63 : decode cX8_fill 63 = .ok (.iconst 1, 1) := by decide +kernel
theorem dX8_fill_64 : decode cX8_fill 64 = .ok (.isub, 1) := by decide +kernel
theorem dX8_fill_65 : decode cX8_fill 65 = .ok (.bipush 6, 2) := by decide +kernel
theorem dX8_fill_67 : decode cX8_fill 67 = .ok (.invokevirtual 29, 3) := by decide +kernel
theorem dX8_fill_70 : decode cX8_fill 70 = .ok (.invokevirtual 25, 3) := by decide +kernel
theorem dX8_fill_73 : decode cX8_fill 73 = .ok (.iinc 4 1, 3) := by decide +kernel
theorem dX8_fill_76 : decode cX8_fill 76 = .ok (.goto (-31), 3) := by decide +kernel
theorem dX8_fill_79 : decode cX8_fill 79 = .ok (.iinc 3 1, 3) := by decide +kernel
theorem dX8_fill_82 : decode cX8_fill 82 = .ok (.goto (-45), 3) := by decide +kernel
theorem dX8_fill_85 : decode cX8_fill 85 = .ok (.return_, 1) := by decide +kernel
theorem dX8_from_0 : decode cX8_from 0 = .ok (.iload_n 2, 1) := by decide +kernel
theorem dX8_from_1 : decode cX8_from 1 = .ok (.bipush 60, 2) := by decide +kernel
theorem dX8_from_3 : decode cX8_from 3 = .ok (.imul, 1) := by decide +kernel
theorem dX8_from_4 : decode cX8_from 4 = .ok (.iload_n 1, 1) := by decide +kernel
theorem dX8_from_5 : decode cX8_from 5 = .ok (.iadd, 1) := by decide +kernel
theorem dX8_from_6 : decode cX8_from 6 = .ok (.istore_n 3, 1) := by decide +kernel
theorem dX8_from_7 : decode cX8_from 7 = .ok (.iload_n 3, 1) := by decide +kernel
theorem dX8_from_8 : decode cX8_from 8 = .ok (.aload_n 0, 1) := by decide +kernel
theorem dX8_from_9 : decode cX8_from 9 = .ok (.getfield 9, 3) := by decide +kernel
theorem dX8_from_12 : decode cX8_from 12 = .ok (.arraylength, 1) := by decide +kernel
theorem dX8_from_13 : decode cX8_from 13 = .ok (.invokestatic 33, 3) := by decide +kernel
theorem dX8_from_16 : decode cX8_from 16 = .ok (.ifCond .eq 12, 3) := by decide +kernel
theorem dX8_from_19 : decode cX8_from 19 = .ok (.aload_n 0, 1) := by decide +kernel
theorem dX8_from_20 : decode cX8_from 20 = .ok (.getfield 9, 3) := by decide +kernel
theorem dX8_from_23 : decode cX8_from 23 = .ok (.iload_n 3, 1) := by decide +kernel
theorem dX8_from_24 : decode cX8_from 24 = .ok (.laload, 1) := by decide +kernel
theorem dX8_from_25 : decode cX8_from 25 = .ok (.goto 4, 3) := by decide +kernel
theorem dX8_from_28 : decode cX8_from 28 = .ok (.lconst 0, 1) := by decide +kernel
theorem dX8_from_29 : decode cX8_from 29 = .ok (.lreturn, 1) := by decide +kernel
theorem dX8_wordsBefore_0 : decode cX8_wordsBefore 0 = .ok (.lconst 0, 1) := by decide +kernel
theorem dX8_wordsBefore_1 : decode cX8_wordsBefore 1 = .ok (.lstore 5, 2) := by decide +kernel
theorem dX8_wordsBefore_3 : decode cX8_wordsBefore 3 = .ok (.iconst 0, 1) := by decide +kernel
theorem dX8_wordsBefore_4 : decode cX8_wordsBefore 4 = .ok (.istore 7, 2) := by decide +kernel
theorem dX8_wordsBefore_6 : decode cX8_wordsBefore 6 = .ok (.iload 7, 2) := by decide +kernel
theorem dX8_wordsBefore_8 : decode cX8_wordsBefore 8 = .ok (.bipush 6, 2) := by decide +kernel
theorem dX8_wordsBefore_10 : decode cX8_wordsBefore 10 = .ok (.if_icmp .ge 33, 3) := by decide +kernel
theorem dX8_wordsBefore_13 : decode cX8_wordsBefore 13 = .ok (.iload 7, 2) := by decide +kernel
theorem dX8_wordsBefore_15 : decode cX8_wordsBefore 15 = .ok (.iload 4, 2) := by decide +kernel
theorem dX8_wordsBefore_17 : decode cX8_wordsBefore 17 = .ok (.if_icmp .ge 26, 3) := by decide +kernel
theorem dX8_wordsBefore_20 : decode cX8_wordsBefore 20 = .ok (.lload 5, 2) := by decide +kernel
theorem dX8_wordsBefore_22 : decode cX8_wordsBefore 22 = .ok (.aload_n 0, 1) := by decide +kernel
theorem dX8_wordsBefore_23 : decode cX8_wordsBefore 23 = .ok (.aload_n 1, 1) := by decide +kernel
theorem dX8_wordsBefore_24 : decode cX8_wordsBefore 24 = .ok (.iload_n 2, 1) := by decide +kernel
theorem dX8_wordsBefore_25 : decode cX8_wordsBefore 25 = .ok (.iload 7, 2) := by decide +kernel
theorem dX8_wordsBefore_27 : decode cX8_wordsBefore 27 = .ok (.invokevirtual 37, 3) := by decide +kernel
theorem dX8_wordsBefore_30 : decode cX8_wordsBefore 30 = .ok (.iload_n 3, 1) := by decide +kernel
theorem dX8_wordsBefore_31 : decode cX8_wordsBefore 31 = .ok (.invokevirtual 41, 3) := by decide +kernel
theorem dX8_wordsBefore_34 : decode cX8_wordsBefore 34 = .ok (.ladd, 1) := by decide +kernel
theorem dX8_wordsBefore_35 : decode cX8_wordsBefore 35 = .ok (.lstore 5, 2) := by decide +kernel
theorem dX8_wordsBefore_37 : decode cX8_wordsBefore 37 = .ok (.iinc 7 1, 3) := by decide +kernel
theorem dX8_wordsBefore_40 : decode cX8_wordsBefore 40 = .ok (.goto (-34), 3) := by decide +kernel
theorem dX8_wordsBefore_43 : decode cX8_wordsBefore 43 = .ok (.lload 5, 2) := by decide +kernel
theorem dX8_wordsBefore_45 : decode cX8_wordsBefore 45 = .ok (.lreturn, 1) := by decide +kernel
theorem dX8_streetToWord_0 : decode cX8_streetToWord 0 = .ok (.iconst 0, 1) := by decide +kernel
theorem dX8_streetToWord_1 : decode cX8_streetToWord 1 = .ok (.istore 6, 2) := by decide +kernel
theorem dX8_streetToWord_3 : decode cX8_streetToWord 3 = .ok (.iload 6, 2) := by decide +kernel
theorem dX8_streetToWord_5 : decode cX8_streetToWord 5 = .ok (.bipush 6, 2) := by decide +kernel
theorem dX8_streetToWord_7 : decode cX8_streetToWord 7 = .ok (.if_icmp .ge 29, 3) := by decide +kernel
theorem dX8_streetToWord_10 : decode cX8_streetToWord 10 = .ok (.lload 4, 2) := by decide +kernel
theorem dX8_streetToWord_12 : decode cX8_streetToWord 12 = .ok (.aload_n 0, 1) := by decide +kernel
theorem dX8_streetToWord_13 : decode cX8_streetToWord 13 = .ok (.aload_n 1, 1) := by decide +kernel
theorem dX8_streetToWord_14 : decode cX8_streetToWord 14 = .ok (.iload_n 2, 1) := by decide +kernel
theorem dX8_streetToWord_15 : decode cX8_streetToWord 15 = .ok (.iload_n 3, 1) := by decide +kernel
theorem dX8_streetToWord_16 : decode cX8_streetToWord 16 = .ok (.iload 6, 2) := by decide +kernel
theorem dX8_streetToWord_18 : decode cX8_streetToWord 18 = .ok (.iconst 1, 1) := by decide +kernel
theorem dX8_streetToWord_19 : decode cX8_streetToWord 19 = .ok (.iadd, 1) := by decide +kernel
theorem dX8_streetToWord_20 : decode cX8_streetToWord 20 = .ok (.invokevirtual 29, 3) := by decide +kernel
theorem dX8_streetToWord_23 : decode cX8_streetToWord 23 = .ok (.lcmp, 1) := by decide +kernel
theorem dX8_streetToWord_24 : decode cX8_streetToWord 24 = .ok (.ifCond .ge 6, 3) := by decide +kernel
theorem dX8_streetToWord_27 : decode cX8_streetToWord 27 = .ok (.iload 6, 2) := by decide +kernel
theorem dX8_streetToWord_29 : decode cX8_streetToWord 29 = .ok (.ireturn, 1) := by decide +kernel
theorem dX8_streetToWord_30 : decode cX8_streetToWord 30 = .ok (.iinc 6 1, 3) := by decide +kernel
theorem dX8_streetToWord_33 : decode cX8_streetToWord 33 = .ok (.goto (-30), 3) := by decide +kernel
theorem dX8_streetToWord_36 : decode cX8_streetToWord 36 = .ok (.iconst (-1), 1) := by decide +kernel
theorem dX8_streetToWord_37 : decode cX8_streetToWord 37 = .ok (.ireturn, 1) := by decide +kernel
theorem dX8_put_0 : decode cX8_put 0 = .ok (.iload_n 2, 1) := by decide +kernel
theorem dX8_put_1 : decode cX8_put 1 = .ok (.bipush 60, 2) := by decide +kernel
theorem dX8_put_3 : decode cX8_put 3 = .ok (.imul, 1) := by decide +kernel
theorem dX8_put_4 : decode cX8_put 4 = .ok (.iload_n 1, 1) := by decide +kernel
theorem dX8_put_5 : decode cX8_put 5 = .ok (.iadd, 1) := by decide +kernel
theorem dX8_put_6 : decode cX8_put 6 = .ok (.istore 5, 2) := by decide +kernel
theorem dX8_put_8 : decode cX8_put 8 = .ok (.iload 5, 2) := by decide +kernel
theorem dX8_put_10 : decode cX8_put 10 = .ok (.aload_n 0, 1) := by decide +kernel
theorem dX8_put_11 : decode cX8_put 11 = .ok (.getfield 9, 3) := by decide +kernel
theorem dX8_put_14 : decode cX8_put 14 = .ok (.arraylength, 1) := by decide +kernel
theorem dX8_put_15 : decode cX8_put 15 = .ok (.invokestatic 33, 3) := by decide +kernel
theorem dX8_put_18 : decode cX8_put 18 = .ok (.ifCond .eq 11, 3) := by decide +kernel
theorem dX8_put_21 : decode cX8_put 21 = .ok (.aload_n 0, 1) := by decide +kernel
theorem dX8_put_22 : decode cX8_put 22 = .ok (.getfield 9, 3) := by decide +kernel
theorem dX8_put_25 : decode cX8_put 25 = .ok (.iload 5, 2) := by decide +kernel
theorem dX8_put_27 : decode cX8_put 27 = .ok (.lload_n 3, 1) := by decide +kernel
theorem dX8_put_28 : decode cX8_put 28 = .ok (.lastore, 1) := by decide +kernel
theorem dX8_put_29 : decode cX8_put 29 = .ok (.return_, 1) := by decide +kernel
theorem dX9_init_0 : decode cX9_init 0 = .ok (.aload_n 0, 1) := by decide +kernel
theorem dX9_init_1 : decode cX9_init 1 = .ok (.invokespecial 3, 3) := by decide +kernel
theorem dX9_init_4 : decode cX9_init 4 = .ok (.aload_n 0, 1) := by decide +kernel
theorem dX9_init_5 : decode cX9_init 5 = .ok (.bipush 63, 2) := by decide +kernel
theorem dX9_init_7 : decode cX9_init 7 = .ok (.putfield 9, 3) := by decide +kernel
theorem dX9_init_10 : decode cX9_init 10 = .ok (.aload_n 0, 1) := by decide +kernel
theorem dX9_init_11 : decode cX9_init 11 = .ok (.bipush 63, 2) := by decide +kernel
theorem dX9_init_13 : decode cX9_init 13 = .ok (.putfield 15, 3) := by decide +kernel
theorem dX9_init_16 : decode cX9_init 16 = .ok (.aload_n 0, 1) := by decide +kernel
theorem dX9_init_17 : decode cX9_init 17 = .ok (.bipush 6, 2) := by decide +kernel
theorem dX9_init_19 : decode cX9_init 19 = .ok (.newarray .int, 2) := by decide +kernel
theorem dX9_init_21 : decode cX9_init 21 = .ok (.putfield 18, 3) := by decide +kernel
theorem dX9_init_24 : decode cX9_init 24 = .ok (.aload_n 0, 1) := by decide +kernel
theorem dX9_init_25 : decode cX9_init 25 = .ok (.bipush 6, 2) := by decide +kernel
theorem dX9_init_27 : decode cX9_init 27 = .ok (.newarray .int, 2) := by decide +kernel
theorem dX9_init_29 : decode cX9_init 29 = .ok (.putfield 22, 3) := by decide +kernel
theorem dX9_init_32 : decode cX9_init 32 = .ok (.aload_n 0, 1) := by decide +kernel
theorem dX9_init_33 : decode cX9_init 33 = .ok (.bipush 6, 2) := by decide +kernel
theorem dX9_init_35 : decode cX9_init 35 = .ok (.newarray .int, 2) := by decide +kernel
theorem dX9_init_37 : decode cX9_init 37 = .ok (.putfield 25, 3) := by decide +kernel
theorem dX9_init_40 : decode cX9_init 40 = .ok (.aload_n 0, 1) := by decide +kernel
theorem dX9_init_41 : decode cX9_init 41 = .ok (.aload_n 1, 1) := by decide +kernel
theorem dX9_init_42 : decode cX9_init 42 = .ok (.putfield 28, 3) := by decide +kernel
theorem dX9_init_45 : decode cX9_init 45 = .ok (.aload_n 0, 1) := by decide +kernel
theorem dX9_init_46 : decode cX9_init 46 = .ok (.aload_n 2, 1) := by decide +kernel
theorem dX9_init_47 : decode cX9_init 47 = .ok (.putfield 32, 3) := by decide +kernel
theorem dX9_init_50 : decode cX9_init 50 = .ok (.return_, 1) := by decide +kernel
theorem dX9_copyFrom_0 : decode cX9_copyFrom 0 = .ok (.aload_n 0, 1) := by decide +kernel
theorem dX9_copyFrom_1 : decode cX9_copyFrom 1 = .ok (.aload_n 1, 1) := by decide +kernel
theorem dX9_copyFrom_2 : decode cX9_copyFrom 2 = .ok (.getfield 35, 3) := by decide +kernel
theorem dX9_copyFrom_5 : decode cX9_copyFrom 5 = .ok (.putfield 35, 3) := by decide +kernel
theorem dX9_copyFrom_8 : decode cX9_copyFrom 8 = .ok (.aload_n 0, 1) := by decide +kernel
theorem dX9_copyFrom_9 : decode cX9_copyFrom 9 = .ok (.aload_n 1, 1) := by decide +kernel
theorem dX9_copyFrom_10 : decode cX9_copyFrom 10 = .ok (.getfield 39, 3) := by decide +kernel
theorem dX9_copyFrom_13 : decode cX9_copyFrom 13 = .ok (.putfield 39, 3) := by decide +kernel
theorem dX9_copyFrom_16 : decode cX9_copyFrom 16 = .ok (.aload_n 0, 1) := by decide +kernel
theorem dX9_copyFrom_17 : decode cX9_copyFrom 17 = .ok (.aload_n 1, 1) := by decide +kernel
theorem dX9_copyFrom_18 : decode cX9_copyFrom 18 = .ok (.getfield 42, 3) := by decide +kernel
theorem dX9_copyFrom_21 : decode cX9_copyFrom 21 = .ok (.putfield 42, 3) := by decide +kernel
theorem dX9_copyFrom_24 : decode cX9_copyFrom 24 = .ok (.aload_n 0, 1) := by decide +kernel
theorem dX9_copyFrom_25 : decode cX9_copyFrom 25 = .ok (.aload_n 1, 1) := by decide +kernel
theorem dX9_copyFrom_26 : decode cX9_copyFrom 26 = .ok (.getfield 28, 3) := by decide +kernel
theorem dX9_copyFrom_29 : decode cX9_copyFrom 29 = .ok (.putfield 28, 3) := by decide +kernel
theorem dX9_copyFrom_32 : decode cX9_copyFrom 32 = .ok (.aload_n 0, 1) := by decide +kernel
theorem dX9_copyFrom_33 : decode cX9_copyFrom 33 = .ok (.aload_n 1, 1) := by decide +kernel
theorem dX9_copyFrom_34 : decode cX9_copyFrom 34 = .ok (.getfield 32, 3) := by decide +kernel
theorem dX9_copyFrom_37 : decode cX9_copyFrom 37 = .ok (.putfield 32, 3) := by decide +kernel
theorem dX9_copyFrom_40 : decode cX9_copyFrom 40 = .ok (.aload_n 0, 1) := by decide +kernel
theorem dX9_copyFrom_41 : decode cX9_copyFrom 41 = .ok (.aload_n 1, 1) := by decide +kernel
theorem dX9_copyFrom_42 : decode cX9_copyFrom 42 = .ok (.getfield 9, 3) := by decide +kernel
theorem dX9_copyFrom_45 : decode cX9_copyFrom 45 = .ok (.putfield 9, 3) := by decide +kernel
theorem dX9_copyFrom_48 : decode cX9_copyFrom 48 = .ok (.aload_n 0, 1) := by decide +kernel
theorem dX9_copyFrom_49 : decode cX9_copyFrom 49 = .ok (.aload_n 1, 1) := by decide +kernel
theorem dX9_copyFrom_50 : decode cX9_copyFrom 50 = .ok (.getfield 15, 3) := by decide +kernel
theorem dX9_copyFrom_53 : decode cX9_copyFrom 53 = .ok (.putfield 15, 3) := by decide +kernel
theorem dX9_copyFrom_56 : decode cX9_copyFrom 56 = .ok (.iconst 0, 1) := by decide +kernel
theorem dX9_copyFrom_57 : decode cX9_copyFrom 57 = .ok (.istore_n 2, 1) := by decide +kernel
theorem dX9_copyFrom_58 : decode cX9_copyFrom 58 = .ok (.iload_n 2, 1) := by decide +kernel
theorem dX9_copyFrom_59 : decode cX9_copyFrom 59 = .ok (.bipush 6, 2) := by decide +kernel
theorem dX9_copyFrom_61 : decode cX9_copyFrom 61 = .ok (.if_icmp .ge 45, 3) := by decide +kernel
theorem dX9_copyFrom_64 : decode cX9_copyFrom 64 = .ok (.aload_n 0, 1) := by decide +kernel
theorem dX9_copyFrom_65 : decode cX9_copyFrom 65 = .ok (.getfield 18, 3) := by decide +kernel
theorem dX9_copyFrom_68 : decode cX9_copyFrom 68 = .ok (.iload_n 2, 1) := by decide +kernel
theorem dX9_copyFrom_69 : decode cX9_copyFrom 69 = .ok (.aload_n 1, 1) := by decide +kernel
theorem dX9_copyFrom_70 : decode cX9_copyFrom 70 = .ok (.getfield 18, 3) := by decide +kernel
theorem dX9_copyFrom_73 : decode cX9_copyFrom 73 = .ok (.iload_n 2, 1) := by decide +kernel
theorem dX9_copyFrom_74 : decode cX9_copyFrom 74 = .ok (.iaload, 1) := by decide +kernel
theorem dX9_copyFrom_75 : decode cX9_copyFrom 75 = .ok (.iastore, 1) := by decide +kernel
theorem dX9_copyFrom_76 : decode cX9_copyFrom 76 = .ok (.aload_n 0, 1) := by decide +kernel
theorem dX9_copyFrom_77 : decode cX9_copyFrom 77 = .ok (.getfield 22, 3) := by decide +kernel
theorem dX9_copyFrom_80 : decode cX9_copyFrom 80 = .ok (.iload_n 2, 1) := by decide +kernel
theorem dX9_copyFrom_81 : decode cX9_copyFrom 81 = .ok (.aload_n 1, 1) := by decide +kernel
theorem dX9_copyFrom_82 : decode cX9_copyFrom 82 = .ok (.getfield 22, 3) := by decide +kernel
theorem dX9_copyFrom_85 : decode cX9_copyFrom 85 = .ok (.iload_n 2, 1) := by decide +kernel
theorem dX9_copyFrom_86 : decode cX9_copyFrom 86 = .ok (.iaload, 1) := by decide +kernel
theorem dX9_copyFrom_87 : decode cX9_copyFrom 87 = .ok (.iastore, 1) := by decide +kernel
theorem dX9_copyFrom_88 : decode cX9_copyFrom 88 = .ok (.aload_n 0, 1) := by decide +kernel
theorem dX9_copyFrom_89 : decode cX9_copyFrom 89 = .ok (.getfield 25, 3) := by decide +kernel
theorem dX9_copyFrom_92 : decode cX9_copyFrom 92 = .ok (.iload_n 2, 1) := by decide +kernel
theorem dX9_copyFrom_93 : decode cX9_copyFrom 93 = .ok (.aload_n 1, 1) := by decide +kernel
theorem dX9_copyFrom_94 : decode cX9_copyFrom 94 = .ok (.getfield 25, 3) := by decide +kernel
theorem dX9_copyFrom_97 : decode cX9_copyFrom 97 = .ok (.iload_n 2, 1) := by decide +kernel
theorem dX9_copyFrom_98 : decode cX9_copyFrom 98 = .ok (.iaload, 1) := by decide +kernel
theorem dX9_copyFrom_99 : decode cX9_copyFrom 99 = .ok (.iastore, 1) := by decide +kernel
theorem dX9_copyFrom_100 : decode cX9_copyFrom 100 = .ok (.iinc 2 1, 3) := by decide +kernel
theorem dX9_copyFrom_103 : decode cX9_copyFrom 103 = .ok (.goto (-45), 3) := by decide +kernel
theorem dX9_copyFrom_106 : decode cX9_copyFrom 106 = .ok (.return_, 1) := by decide +kernel
theorem dX9_pattern_0 : decode cX9_pattern 0 = .ok (.iload_n 1, 1) := by decide +kernel
theorem dX9_pattern_1 : decode cX9_pattern 1 = .ok (.ifCond .ne 10, 3) := by decide +kernel
theorem dX9_pattern_4 : decode cX9_pattern 4 = .ok (.aload_n 0, 1) := by decide +kernel
theorem dX9_pattern_5 : decode cX9_pattern 5 = .ok (.getfield 28, 3) := by decide +kernel
theorem dX9_pattern_8 : decode cX9_pattern 8 = .ok (.goto 7, 3) := by decide +kernel
theorem dX9_pattern_11 : decode cX9_pattern 11 = .ok (.aload_n 0, 1) := by decide +kernel
theorem dX9_pattern_12 : decode cX9_pattern 12 = .ok (.getfield 32, 3) := by decide +kernel
theorem dX9_pattern_15 : decode cX9_pattern 15 = .ok (.areturn, 1) := by decide +kernel
theorem dX9_patternOfWalker_0 : decode cX9_patternOfWalker 0 = .ok (.aload_n 0, 1) := by decide +kernel
theorem dX9_patternOfWalker_1 : decode cX9_patternOfWalker 1 = .ok (.aload_n 0, 1) := by decide +kernel
theorem dX9_patternOfWalker_2 : decode cX9_patternOfWalker 2 = .ok (.iload_n 1, 1) := by decide +kernel
theorem dX9_patternOfWalker_3 : decode cX9_patternOfWalker 3 = .ok (.invokevirtual 45, 3) := by decide +kernel
theorem dX9_patternOfWalker_6 : decode cX9_patternOfWalker 6 = .ok (.invokevirtual 49, 3) := by decide +kernel
theorem dX9_patternOfWalker_9 : decode cX9_patternOfWalker 9 = .ok (.areturn, 1) := by decide +kernel
theorem dX9_putPattern_0 : decode cX9_putPattern 0 = .ok (.iload_n 1, 1) := by decide +kernel
theorem dX9_putPattern_1 : decode cX9_putPattern 1 = .ok (.ifCond .ne 11, 3) := by decide +kernel
theorem dX9_putPattern_4 : decode cX9_putPattern 4 = .ok (.aload_n 0, 1) := by decide +kernel
theorem dX9_putPattern_5 : decode cX9_putPattern 5 = .ok (.aload_n 2, 1) := by decide +kernel
theorem dX9_putPattern_6 : decode cX9_putPattern 6 = .ok (.putfield 28, 3) := by decide +kernel
theorem dX9_putPattern_9 : decode cX9_putPattern 9 = .ok (.goto 8, 3) := by decide +kernel
theorem dX9_putPattern_12 : decode cX9_putPattern 12 = .ok (.aload_n 0, 1) := by decide +kernel
theorem dX9_putPattern_13 : decode cX9_putPattern 13 = .ok (.aload_n 2, 1) := by decide +kernel
theorem dX9_putPattern_14 : decode cX9_putPattern 14 = .ok (.putfield 32, 3) := by decide +kernel
theorem dX9_putPattern_17 : decode cX9_putPattern 17 = .ok (.iconst 0, 1) := by decide +kernel
theorem dX9_putPattern_18 : decode cX9_putPattern 18 = .ok (.istore_n 3, 1) := by decide +kernel
theorem dX9_putPattern_19 : decode cX9_putPattern 19 = .ok (.iload_n 3, 1) := by decide +kernel
theorem dX9_putPattern_20 : decode cX9_putPattern 20 = .ok (.aload_n 0, 1) := by decide +kernel
theorem dX9_putPattern_21 : decode cX9_putPattern 21 = .ok (.getfield 39, 3) := by decide +kernel
theorem dX9_putPattern_24 : decode cX9_putPattern 24 = .ok (.if_icmp .ge 23, 3) := by decide +kernel
theorem dX9_putPattern_27 : decode cX9_putPattern 27 = .ok (.aload_n 0, 1) := by decide +kernel
theorem dX9_putPattern_28 : decode cX9_putPattern 28 = .ok (.iload_n 3, 1) := by decide +kernel
theorem dX9_putPattern_29 : decode cX9_putPattern 29 = .ok (.invokevirtual 45, 3) := by decide +kernel
theorem dX9_putPattern_32 : decode cX9_putPattern 32 = .ok (.iload_n 1, 1) := by decide +kernel
theorem dX9_putPattern_33 : decode cX9_putPattern 33 = .ok (.if_icmp .ne 8, 3) := by decide +kernel
theorem dX9_putPattern_36 : decode cX9_putPattern 36 = .ok (.aload_n 0, 1) := by decide +kernel
theorem dX9_putPattern_37 : decode cX9_putPattern 37 = .ok (.iload_n 3, 1) := by decide +kernel
theorem dX9_putPattern_38 : decode cX9_putPattern 38 = .ok (.invokevirtual 53, 3) := by decide +kernel
theorem dX9_putPattern_41 : decode cX9_putPattern 41 = .ok (.iinc 3 1, 3) := by decide +kernel
theorem dX9_putPattern_44 : decode cX9_putPattern 44 = .ok (.goto (-25), 3) := by decide +kernel
theorem dX9_putPattern_47 : decode cX9_putPattern 47 = .ok (.return_, 1) := by decide +kernel
theorem dX9_openStreets_0 : decode cX9_openStreets 0 = .ok (.aload_n 0, 1) := by decide +kernel
theorem dX9_openStreets_1 : decode cX9_openStreets 1 = .ok (.getfield 35, 3) := by decide +kernel
theorem dX9_openStreets_4 : decode cX9_openStreets 4 = .ok (.ifCond .eq 10, 3) := by decide +kernel
theorem dX9_openStreets_7 : decode cX9_openStreets 7 = .ok (.aload_n 0, 1) := by decide +kernel
theorem dX9_openStreets_8 : decode cX9_openStreets 8 = .ok (.getfield 15, 3) := by decide +kernel
theorem dX9_openStreets_11 : decode cX9_openStreets 11 = .ok (.goto 7, 3) := by decide +kernel
theorem dX9_openStreets_14 : decode cX9_openStreets 14 = .ok (.aload_n 0, 1) := by decide +kernel
theorem dX9_openStreets_15 : decode cX9_openStreets 15 = .ok (.getfield 9, 3) := by decide +kernel
theorem dX9_openStreets_18 : decode cX9_openStreets 18 = .ok (.ireturn, 1) := by decide +kernel
theorem dX9_isOpen_0 : decode cX9_isOpen 0 = .ok (.iload_n 1, 1) := by decide +kernel
theorem dX9_isOpen_1 : decode cX9_isOpen 1 = .ok (.bipush 6, 2) := by decide +kernel
theorem dX9_isOpen_3 : decode cX9_isOpen 3 = .ok (.invokestatic 57, 3) := by decide +kernel
theorem dX9_isOpen_6 : decode cX9_isOpen 6 = .ok (.ifCond .eq 18, 3) := by decide +kernel
theorem dX9_isOpen_9 : decode cX9_isOpen 9 = .ok (.aload_n 0, 1) := by decide +kernel
theorem dX9_isOpen_10 : decode cX9_isOpen 10 = .ok (.invokevirtual 61, 3) := by decide +kernel
theorem dX9_isOpen_13 : decode cX9_isOpen 13 = .ok (.iload_n 1, 1) := by decide +kernel
theorem dX9_isOpen_14 : decode cX9_isOpen 14 = .ok (.ishr, 1) := by decide +kernel
theorem dX9_isOpen_15 : decode cX9_isOpen 15 = .ok (.iconst 1, 1) := by decide +kernel
theorem dX9_isOpen_16 : decode cX9_isOpen 16 = .ok (.iand, 1) := by decide +kernel
theorem dX9_isOpen_17 : decode cX9_isOpen 17 = .ok (.ifCond .eq 7, 3) := by decide +kernel
theorem dX9_isOpen_20 : decode cX9_isOpen 20 = .ok (.iconst 1, 1) := by decide +kernel
theorem dX9_isOpen_21 : decode cX9_isOpen 21 = .ok (.goto 4, 3) := by decide +kernel
theorem dX9_isOpen_24 : decode cX9_isOpen 24 = .ok (.iconst 0, 1) := by decide +kernel
theorem dX9_isOpen_25 : decode cX9_isOpen 25 = .ok (.ireturn, 1) := by decide +kernel
theorem dX9_slotOf_0 : decode cX9_slotOf 0 = .ok (.iload_n 1, 1) := by decide +kernel
theorem dX9_slotOf_1 : decode cX9_slotOf 1 = .ok (.aload_n 0, 1) := by decide +kernel
theorem dX9_slotOf_2 : decode cX9_slotOf 2 = .ok (.getfield 18, 3) := by decide +kernel
theorem dX9_slotOf_5 : decode cX9_slotOf 5 = .ok (.arraylength, 1) := by decide +kernel
theorem dX9_slotOf_6 : decode cX9_slotOf 6 = .ok (.invokestatic 57, 3) := by decide +kernel
theorem dX9_slotOf_9 : decode cX9_slotOf 9 = .ok (.ifCond .eq 12, 3) := by decide +kernel
theorem dX9_slotOf_12 : decode cX9_slotOf 12 = .ok (.aload_n 0, 1) := by decide +kernel
theorem dX9_slotOf_13 : decode cX9_slotOf 13 = .ok (.getfield 18, 3) := by decide +kernel
theorem dX9_slotOf_16 : decode cX9_slotOf 16 = .ok (.iload_n 1, 1) := by decide +kernel
theorem dX9_slotOf_17 : decode cX9_slotOf 17 = .ok (.iaload, 1) := by decide +kernel
theorem dX9_slotOf_18 : decode cX9_slotOf 18 = .ok (.goto 4, 3) := by decide +kernel
theorem dX9_slotOf_21 : decode cX9_slotOf 21 = .ok (.iconst (-1), 1) := by decide +kernel
theorem dX9_slotOf_22 : decode cX9_slotOf 22 = .ok (.ireturn, 1) := by decide +kernel
theorem dX9_stateOf_0 : decode cX9_stateOf 0 = .ok (.iload_n 1, 1) := by decide +kernel
theorem dX9_stateOf_1 : decode cX9_stateOf 1 = .ok (.aload_n 0, 1) := by decide +kernel
theorem dX9_stateOf_2 : decode cX9_stateOf 2 = .ok (.getfield 22, 3) := by decide +kernel
theorem dX9_stateOf_5 : decode cX9_stateOf 5 = .ok (.arraylength, 1) := by decide +kernel
theorem dX9_stateOf_6 : decode cX9_stateOf 6 = .ok (.invokestatic 57, 3) := by decide +kernel
theorem dX9_stateOf_9 : decode cX9_stateOf 9 = .ok (.ifCond .eq 12, 3) := by decide +kernel
theorem dX9_stateOf_12 : decode cX9_stateOf 12 = .ok (.aload_n 0, 1) := by decide +kernel
theorem dX9_stateOf_13 : decode cX9_stateOf 13 = .ok (.getfield 22, 3) := by decide +kernel
theorem dX9_stateOf_16 : decode cX9_stateOf 16 = .ok (.iload_n 1, 1) := by decide +kernel
theorem dX9_stateOf_17 : decode cX9_stateOf 17 = .ok (.iaload, 1) := by decide +kernel
theorem dX9_stateOf_18 : decode cX9_stateOf 18 = .ok (.goto 4, 3) := by decide +kernel
theorem dX9_stateOf_21 : decode cX9_stateOf 21 = .ok (.iconst (-1), 1) := by decide +kernel
theorem dX9_stateOf_22 : decode cX9_stateOf 22 = .ok (.ireturn, 1) := by decide +kernel
theorem dX9_stepsOf_0 : decode cX9_stepsOf 0 = .ok (.iload_n 1, 1) := by decide +kernel
theorem dX9_stepsOf_1 : decode cX9_stepsOf 1 = .ok (.aload_n 0, 1) := by decide +kernel
theorem dX9_stepsOf_2 : decode cX9_stepsOf 2 = .ok (.getfield 25, 3) := by decide +kernel
theorem dX9_stepsOf_5 : decode cX9_stepsOf 5 = .ok (.arraylength, 1) := by decide +kernel
theorem dX9_stepsOf_6 : decode cX9_stepsOf 6 = .ok (.invokestatic 57, 3) := by decide +kernel
theorem dX9_stepsOf_9 : decode cX9_stepsOf 9 = .ok (.ifCond .eq 12, 3) := by decide +kernel
theorem dX9_stepsOf_12 : decode cX9_stepsOf 12 = .ok (.aload_n 0, 1) := by decide +kernel
theorem dX9_stepsOf_13 : decode cX9_stepsOf 13 = .ok (.getfield 25, 3) := by decide +kernel
theorem dX9_stepsOf_16 : decode cX9_stepsOf 16 = .ok (.iload_n 1, 1) := by decide +kernel
theorem dX9_stepsOf_17 : decode cX9_stepsOf 17 = .ok (.iaload, 1) := by decide +kernel
theorem dX9_stepsOf_18 : decode cX9_stepsOf 18 = .ok (.goto 4, 3) := by decide +kernel
theorem dX9_stepsOf_21 : decode cX9_stepsOf 21 = .ok (.iconst (-1), 1) := by decide +kernel
theorem dX9_stepsOf_22 : decode cX9_stepsOf 22 = .ok (.ireturn, 1) := by decide +kernel
theorem dX9_bringWalker_0 : decode cX9_bringWalker 0 = .ok (.aload_n 0, 1) := by decide +kernel
theorem dX9_bringWalker_1 : decode cX9_bringWalker 1 = .ok (.getfield 39, 3) := by decide +kernel
theorem dX9_bringWalker_4 : decode cX9_bringWalker 4 = .ok (.bipush 6, 2) := by decide +kernel
theorem dX9_bringWalker_6 : decode cX9_bringWalker 6 = .ok (.invokestatic 57, 3) := by decide +kernel
theorem dX9_bringWalker_9 : decode cX9_bringWalker 9 = .ok (.ifCond .ne 5, 3) := by decide +kernel
theorem dX9_bringWalker_12 : decode cX9_bringWalker 12 = .ok (.iconst (-1), 1) := by decide +kernel
theorem dX9_bringWalker_13 : decode cX9_bringWalker 13 = .ok (.ireturn, 1) := by decide +kernel
theorem dX9_bringWalker_14 : decode cX9_bringWalker 14 = .ok (.aload_n 0, 1) := by decide +kernel
theorem dX9_bringWalker_15 : decode cX9_bringWalker 15 = .ok (.getfield 39, 3) := by decide +kernel
theorem dX9_bringWalker_18 : decode cX9_bringWalker 18 = .ok (.istore_n 2, 1) := by decide +kernel
theorem dX9_bringWalker_19 : decode cX9_bringWalker 19 = .ok (.aload_n 0, 1) := by decide +kernel
theorem dX9_bringWalker_20 : decode cX9_bringWalker 20 = .ok (.getfield 18, 3) := by decide +kernel
theorem dX9_bringWalker_23 : decode cX9_bringWalker 23 = .ok (.iload_n 2, 1) := by decide +kernel
theorem dX9_bringWalker_24 : decode cX9_bringWalker 24 = .ok (.iload_n 1, 1) := by decide +kernel
theorem dX9_bringWalker_25 : decode cX9_bringWalker 25 = .ok (.iastore, 1) := by decide +kernel
theorem dX9_bringWalker_26 : decode cX9_bringWalker 26 = .ok (.aload_n 0, 1) := by decide +kernel
theorem dX9_bringWalker_27 : decode cX9_bringWalker 27 = .ok (.dup, 1) := by decide +kernel
theorem dX9_bringWalker_28 : decode cX9_bringWalker 28 = .ok (.getfield 39, 3) := by decide +kernel
theorem dX9_bringWalker_31 : decode cX9_bringWalker 31 = .ok (.iconst 1, 1) := by decide +kernel
theorem dX9_bringWalker_32 : decode cX9_bringWalker 32 = .ok (.iadd, 1) := by decide +kernel
theorem dX9_bringWalker_33 : decode cX9_bringWalker 33 = .ok (.putfield 39, 3) := by decide +kernel
theorem dX9_bringWalker_36 : decode cX9_bringWalker 36 = .ok (.aload_n 0, 1) := by decide +kernel
theorem dX9_bringWalker_37 : decode cX9_bringWalker 37 = .ok (.iload_n 2, 1) := by decide +kernel
theorem dX9_bringWalker_38 : decode cX9_bringWalker 38 = .ok (.invokevirtual 53, 3) := by decide +kernel
theorem dX9_bringWalker_41 : decode cX9_bringWalker 41 = .ok (.iload_n 2, 1) := by decide +kernel
theorem dX9_bringWalker_42 : decode cX9_bringWalker 42 = .ok (.ireturn, 1) := by decide +kernel
theorem dX9_moveWalker_0 : decode cX9_moveWalker 0 = .ok (.iload_n 1, 1) := by decide +kernel
theorem dX9_moveWalker_1 : decode cX9_moveWalker 1 = .ok (.bipush 6, 2) := by decide +kernel
theorem dX9_moveWalker_3 : decode cX9_moveWalker 3 = .ok (.invokestatic 57, 3) := by decide +kernel
theorem dX9_moveWalker_6 : decode cX9_moveWalker 6 = .ok (.ifCond .eq 44, 3) := by decide +kernel
theorem dX9_moveWalker_9 : decode cX9_moveWalker 9 = .ok (.aload_n 0, 1) := by decide +kernel
theorem dX9_moveWalker_10 : decode cX9_moveWalker 10 = .ok (.getfield 22, 3) := by decide +kernel
theorem dX9_moveWalker_13 : decode cX9_moveWalker 13 = .ok (.iload_n 1, 1) := by decide +kernel
theorem dX9_moveWalker_14 : decode cX9_moveWalker 14 = .ok (.aload_n 0, 1) := by decide +kernel
theorem dX9_moveWalker_15 : decode cX9_moveWalker 15 = .ok (.iload_n 1, 1) := by decide +kernel
theorem dX9_moveWalker_16 : decode cX9_moveWalker 16 = .ok (.invokevirtual 65, 3) := by decide +kernel
theorem dX9_moveWalker_19 : decode cX9_moveWalker 19 = .ok (.aload_n 0, 1) := by decide +kernel
theorem dX9_moveWalker_20 : decode cX9_moveWalker 20 = .ok (.getfield 22, 3) := by decide +kernel
theorem dX9_moveWalker_23 : decode cX9_moveWalker 23 = .ok (.iload_n 1, 1) := by decide +kernel
theorem dX9_moveWalker_24 : decode cX9_moveWalker 24 = .ok (.iaload, 1) := by decide +kernel
theorem dX9_moveWalker_25 : decode cX9_moveWalker 25 = .ok (.iload_n 2, 1) := by decide +kernel
theorem dX9_moveWalker_26 : decode cX9_moveWalker 26 = .ok (.invokevirtual 68, 3) := by decide +kernel
theorem dX9_moveWalker_29 : decode cX9_moveWalker 29 = .ok (.iastore, 1) := by decide +kernel
theorem dX9_moveWalker_30 : decode cX9_moveWalker 30 = .ok (.aload_n 0, 1) := by decide +kernel
theorem dX9_moveWalker_31 : decode cX9_moveWalker 31 = .ok (.getfield 25, 3) := by decide +kernel
theorem dX9_moveWalker_34 : decode cX9_moveWalker 34 = .ok (.iload_n 1, 1) := by decide +kernel
theorem dX9_moveWalker_35 : decode cX9_moveWalker 35 = .ok (.dup2, 1) := by decide +kernel
theorem dX9_moveWalker_36 : decode cX9_moveWalker 36 = .ok (.iaload, 1) := by decide +kernel
theorem dX9_moveWalker_37 : decode cX9_moveWalker 37 = .ok (.iconst 1, 1) := by decide +kernel
theorem dX9_moveWalker_38 : decode cX9_moveWalker 38 = .ok (.iadd, 1) := by decide +kernel
theorem dX9_moveWalker_39 : decode cX9_moveWalker 39 = .ok (.iastore, 1) := by decide +kernel
theorem dX9_moveWalker_40 : decode cX9_moveWalker 40 = .ok (.aload_n 0, 1) := by decide +kernel
theorem dX9_moveWalker_41 : decode cX9_moveWalker 41 = .ok (.dup, 1) := by decide +kernel
theorem dX9_moveWalker_42 : decode cX9_moveWalker 42 = .ok (.getfield 42, 3) := by decide +kernel
theorem dX9_moveWalker_45 : decode cX9_moveWalker 45 = .ok (.iconst 1, 1) := by decide +kernel
theorem dX9_moveWalker_46 : decode cX9_moveWalker 46 = .ok (.iadd, 1) := by decide +kernel
theorem dX9_moveWalker_47 : decode cX9_moveWalker 47 = .ok (.putfield 42, 3) := by decide +kernel
theorem dX9_moveWalker_50 : decode cX9_moveWalker 50 = .ok (.return_, 1) := by decide +kernel
theorem dX9_beginAnew_0 : decode cX9_beginAnew 0 = .ok (.iload_n 1, 1) := by decide +kernel
theorem dX9_beginAnew_1 : decode cX9_beginAnew 1 = .ok (.bipush 6, 2) := by decide +kernel
theorem dX9_beginAnew_3 : decode cX9_beginAnew 3 = .ok (.invokestatic 57, 3) := by decide +kernel
theorem dX9_beginAnew_6 : decode cX9_beginAnew 6 = .ok (.ifCond .eq 17, 3) := by decide +kernel
theorem dX9_beginAnew_9 : decode cX9_beginAnew 9 = .ok (.aload_n 0, 1) := by decide +kernel
theorem dX9_beginAnew_10 : decode cX9_beginAnew 10 = .ok (.getfield 22, 3) := by decide +kernel
theorem dX9_beginAnew_13 : decode cX9_beginAnew 13 = .ok (.iload_n 1, 1) := by decide +kernel
theorem dX9_beginAnew_14 : decode cX9_beginAnew 14 = .ok (.iconst 0, 1) := by decide +kernel
theorem dX9_beginAnew_15 : decode cX9_beginAnew 15 = .ok (.iastore, 1) := by decide +kernel
theorem dX9_beginAnew_16 : decode cX9_beginAnew 16 = .ok (.aload_n 0, 1) := by decide +kernel
theorem dX9_beginAnew_17 : decode cX9_beginAnew 17 = .ok (.getfield 25, 3) := by decide +kernel
theorem dX9_beginAnew_20 : decode cX9_beginAnew 20 = .ok (.iload_n 1, 1) := by decide +kernel
theorem dX9_beginAnew_21 : decode cX9_beginAnew 21 = .ok (.iconst 0, 1) := by decide +kernel
theorem dX9_beginAnew_22 : decode cX9_beginAnew 22 = .ok (.iastore, 1) := by decide +kernel
theorem dX9_beginAnew_23 : decode cX9_beginAnew 23 = .ok (.return_, 1) := by decide +kernel
