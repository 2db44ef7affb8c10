theorem dJx00060_init_a7421_0 : decode cJx00060_init_a7421 0 = .ok (.aload_n 0, 1) := by decide +kernel
theorem dJx00060_init_a7421_1 : decode cJx00060_init_a7421 1 = .ok (.aload_n 1, 1) := by decide +kernel
theorem dJx00060_init_a7421_2 : decode cJx00060_init_a7421 2 = .ok (.invokespecial 7, 3) := by decide +kernel
theorem dJx00060_init_a7421_5 : decode cJx00060_init_a7421 5 = .ok (.return_, 1) := by decide +kernel
theorem dJx29ce0_ordinal_8abf5_0 : decode cJx29ce0_ordinal_8abf5 0 = .ok (.aload_n 0, 1) := by decide +kernel
theorem dJx29ce0_ordinal_8abf5_1 : decode cJx29ce0_ordinal_8abf5 1 = .ok (.getfield 7, 3) := by decide +kernel
theorem dJx29ce0_ordinal_8abf5_4 : decode cJx29ce0_ordinal_8abf5 4 = .ok (.ireturn, 1) := by decide +kernel
theorem dJ6_bitCount_0f7a4_0 : decode cJ6_bitCount_0f7a4 0 = .ok (.iload_n 0, 1) := by decide +kernel
theorem dJ6_bitCount_0f7a4_1 : decode cJ6_bitCount_0f7a4 1 = .ok (.iload_n 0, 1) := by decide +kernel
theorem dJ6_bitCount_0f7a4_2 : decode cJ6_bitCount_0f7a4 2 = .ok (.iconst 1, 1) := by decide +kernel
theorem dJ6_bitCount_0f7a4_3 : decode cJ6_bitCount_0f7a4 3 = .ok (.iushr, 1) := by decide +kernel
theorem dJ6_bitCount_0f7a4_4 : decode cJ6_bitCount_0f7a4 4 = .ok (.ldc_w 265, 3) := by decide +kernel
theorem dJ6_bitCount_0f7a4_7 : decode cJ6_bitCount_0f7a4 7 = .ok (.iand, 1) := by decide +kernel
theorem dJ6_bitCount_0f7a4_8 : decode cJ6_bitCount_0f7a4 8 = .ok (.isub, 1) := by decide +kernel
theorem dJ6_bitCount_0f7a4_9 : decode cJ6_bitCount_0f7a4 9 = .ok (.istore_n 0, 1) := by decide +kernel
theorem dJ6_bitCount_0f7a4_10 : decode cJ6_bitCount_0f7a4 10 = .ok (.iload_n 0, 1) := by decide +kernel
theorem dJ6_bitCount_0f7a4_11 : decode cJ6_bitCount_0f7a4 11 = .ok (.ldc_w 266, 3) := by decide +kernel
theorem dJ6_bitCount_0f7a4_14 : decode cJ6_bitCount_0f7a4 14 = .ok (.iand, 1) := by decide +kernel
theorem dJ6_bitCount_0f7a4_15 : decode cJ6_bitCount_0f7a4 15 = .ok (.iload_n 0, 1) := by decide +kernel
theorem dJ6_bitCount_0f7a4_16 : decode cJ6_bitCount_0f7a4 16 = .ok (.iconst 2, 1) := by decide +kernel
theorem dJ6_bitCount_0f7a4_17 : decode cJ6_bitCount_0f7a4 17 = .ok (.iushr, 1) := by decide +kernel
theorem dJ6_bitCount_0f7a4_18 : decode cJ6_bitCount_0f7a4 18 = .ok (.ldc_w 266, 3) := by decide +kernel
theorem dJ6_bitCount_0f7a4_21 : decode cJ6_bitCount_0f7a4 21 = .ok (.iand, 1) := by decide +kernel
theorem dJ6_bitCount_0f7a4_22 : decode cJ6_bitCount_0f7a4 22 = .ok (.iadd, 1) := by decide +kernel
theorem dJ6_bitCount_0f7a4_23 : decode cJ6_bitCount_0f7a4 23 = .ok (.istore_n 0, 1) := by decide +kernel
theorem dJ6_bitCount_0f7a4_24 : decode cJ6_bitCount_0f7a4 24 = .ok (.iload_n 0, 1) := by decide +kernel
theorem dJ6_bitCount_0f7a4_25 : decode cJ6_bitCount_0f7a4 25 = .ok (.iload_n 0, 1) := by decide +kernel
theorem dJ6_bitCount_0f7a4_26 : decode cJ6_bitCount_0f7a4 26 = .ok (.iconst 4, 1) := by decide +kernel
theorem dJ6_bitCount_0f7a4_27 : decode cJ6_bitCount_0f7a4 27 = .ok (.iushr, 1) := by decide +kernel
theorem dJ6_bitCount_0f7a4_28 : decode cJ6_bitCount_0f7a4 28 = .ok (.iadd, 1) := by decide +kernel
theorem dJ6_bitCount_0f7a4_29 : decode cJ6_bitCount_0f7a4 29 = .ok (.ldc_w 267, 3) := by decide +kernel
theorem dJ6_bitCount_0f7a4_32 : decode cJ6_bitCount_0f7a4 32 = .ok (.iand, 1) := by decide +kernel
theorem dJ6_bitCount_0f7a4_33 : decode cJ6_bitCount_0f7a4 33 = .ok (.istore_n 0, 1) := by decide +kernel
theorem dJ6_bitCount_0f7a4_34 : decode cJ6_bitCount_0f7a4 34 = .ok (.iload_n 0, 1) := by decide +kernel
theorem dJ6_bitCount_0f7a4_35 : decode cJ6_bitCount_0f7a4 35 = .ok (.iload_n 0, 1) := by decide +kernel
theorem dJ6_bitCount_0f7a4_36 : decode cJ6_bitCount_0f7a4 36 = .ok (.bipush 8, 2) := by decide +kernel
theorem dJ6_bitCount_0f7a4_38 : decode cJ6_bitCount_0f7a4 38 = .ok (.iushr, 1) := by decide +kernel
theorem dJ6_bitCount_0f7a4_39 : decode cJ6_bitCount_0f7a4 39 = .ok (.iadd, 1) := by decide +kernel
theorem dJ6_bitCount_0f7a4_40 : decode cJ6_bitCount_0f7a4 40 = .ok (.istore_n 0, 1) := by decide +kernel
theorem dJ6_bitCount_0f7a4_41 : decode cJ6_bitCount_0f7a4 41 = .ok (.iload_n 0, 1) := by decide +kernel
theorem dJ6_bitCount_0f7a4_42 : decode cJ6_bitCount_0f7a4 42 = .ok (.iload_n 0, 1) := by decide +kernel
theorem dJ6_bitCount_0f7a4_43 : decode cJ6_bitCount_0f7a4 43 = .ok (.bipush 16, 2) := by decide +kernel
theorem dJ6_bitCount_0f7a4_45 : decode cJ6_bitCount_0f7a4 45 = .ok (.iushr, 1) := by decide +kernel
theorem dJ6_bitCount_0f7a4_46 : decode cJ6_bitCount_0f7a4 46 = .ok (.iadd, 1) := by decide +kernel
theorem dJ6_bitCount_0f7a4_47 : decode cJ6_bitCount_0f7a4 47 = .ok (.istore_n 0, 1) := by decide +kernel
theorem dJ6_bitCount_0f7a4_48 : decode cJ6_bitCount_0f7a4 48 = .ok (.iload_n 0, 1) := by decide +kernel
theorem dJ6_bitCount_0f7a4_49 : decode cJ6_bitCount_0f7a4 49 = .ok (.bipush 63, 2) := by decide +kernel
theorem dJ6_bitCount_0f7a4_51 : decode cJ6_bitCount_0f7a4 51 = .ok (.iand, 1) := by decide +kernel
theorem dJ6_bitCount_0f7a4_52 : decode cJ6_bitCount_0f7a4 52 = .ok (.ireturn, 1) := by decide +kernel
theorem dJ9_abs_0f7a4_0 : decode cJ9_abs_0f7a4 0 = .ok (.iload_n 0, 1) := by decide +kernel
theorem dJ9_abs_0f7a4_1 : decode cJ9_abs_0f7a4 1 = .ok (.ifCond .ge 8, 3) := by decide +kernel
theorem dJ9_abs_0f7a4_4 : decode cJ9_abs_0f7a4 4 = .ok (.iload_n 0, 1) := by decide +kernel
theorem dJ9_abs_0f7a4_5 : decode cJ9_abs_0f7a4 5 = .ok (.ineg, 1) := by decide +kernel
theorem dJ9_abs_0f7a4_6 : decode cJ9_abs_0f7a4 6 = .ok (.goto 4, 3) := by decide +kernel
theorem dJ9_abs_0f7a4_9 : decode cJ9_abs_0f7a4 9 = .ok (.iload_n 0, 1) := by decide +kernel
theorem dJ9_abs_0f7a4_10 : decode cJ9_abs_0f7a4 10 = .ok (.ireturn, 1) := by decide +kernel
theorem dJ9_max_7cf53_0 : decode cJ9_max_7cf53 0 = .ok (.iload_n 0, 1) := by decide +kernel
theorem dJ9_max_7cf53_1 : decode cJ9_max_7cf53 1 = .ok (.iload_n 1, 1) := by decide +kernel
theorem dJ9_max_7cf53_2 : decode cJ9_max_7cf53 2 = .ok (.if_icmp .lt 7, 3) := by decide +kernel
theorem dJ9_max_7cf53_5 : decode cJ9_max_7cf53 5 = .ok (.iload_n 0, 1) := by decide +kernel
theorem dJ9_max_7cf53_6 : decode cJ9_max_7cf53 6 = .ok (.goto 4, 3) := by decide +kernel
theorem dJ9_max_7cf53_9 : decode cJ9_max_7cf53 9 = .ok (.iload_n 1, 1) := by decide +kernel
theorem dJ9_max_7cf53_10 : decode cJ9_max_7cf53 10 = .ok (.ireturn, 1) := by decide +kernel
theorem dJ0_length_8abf5_0 : decode cJ0_length_8abf5 0 = .ok (.aload_n 0, 1) := by decide +kernel
theorem dJ0_length_8abf5_1 : decode cJ0_length_8abf5 1 = .ok (.getfield 9, 3) := by decide +kernel
theorem dJ0_length_8abf5_4 : decode cJ0_length_8abf5 4 = .ok (.arraylength, 1) := by decide +kernel
theorem dJ0_length_8abf5_5 : decode cJ0_length_8abf5 5 = .ok (.aload_n 0, 1) := by decide +kernel
theorem dJ0_length_8abf5_6 : decode cJ0_length_8abf5 6 = .ok (.invokevirtual 335, 3) := by decide +kernel
theorem dJ0_length_8abf5_9 : decode cJ0_length_8abf5 9 = .ok (.ishr, 1) := by decide +kernel
theorem dJ0_length_8abf5_10 : decode cJ0_length_8abf5 10 = .ok (.ireturn, 1) := by decide +kernel
theorem dJ0_charAt_5068e_0 : decode cJ0_charAt_5068e 0 = .ok (.aload_n 0, 1) := by decide +kernel
theorem dJ0_charAt_5068e_1 : decode cJ0_charAt_5068e 1 = .ok (.invokevirtual 492, 3) := by decide +kernel
theorem dJ0_charAt_5068e_4 : decode cJ0_charAt_5068e 4 = .ok (.ifCond .eq 12, 3) := by decide +kernel
theorem dJ0_charAt_5068e_7 : decode cJ0_charAt_5068e 7 = .ok (.aload_n 0, 1) := by decide +kernel
theorem dJ0_charAt_5068e_8 : decode cJ0_charAt_5068e 8 = .ok (.getfield 9, 3) := by decide +kernel
theorem dJ0_charAt_5068e_11 : decode cJ0_charAt_5068e 11 = .ok (.iload_n 1, 1) := by decide +kernel
theorem dJ0_charAt_5068e_12 : decode cJ0_charAt_5068e 12 = .ok (.invokestatic 495, 3) := by decide +kernel
theorem dJ0_charAt_5068e_15 : decode cJ0_charAt_5068e 15 = .ok (.ireturn, 1) := by decide +kernel
theorem dJ0_charAt_5068e_16 : decode cJ0_charAt_5068e 16 = .ok (.aload_n 0, 1) := by decide +kernel
theorem dJ0_charAt_5068e_17 : decode cJ0_charAt_5068e 17 = .ok (.getfield 9, 3) := by decide +kernel
theorem dJ0_charAt_5068e_20 : decode cJ0_charAt_5068e 20 = .ok (.iload_n 1, 1) := by decide +kernel
theorem dJ0_charAt_5068e_21 : decode cJ0_charAt_5068e 21 = .ok (.invokestatic 498, 3) := by decide +kernel
theorem dJ0_charAt_5068e_24 : decode cJ0_charAt_5068e 24 = .ok (.ireturn, 1) := by decide +kernel
theorem dJ0_coder_7d493_0 : decode cJ0_coder_7d493 0 = .ok (.getstatic 38, 3) := by decide +kernel
theorem dJ0_coder_7d493_3 : decode cJ0_coder_7d493 3 = .ok (.ifCond .eq 10, 3) := by decide +kernel
theorem dJ0_coder_7d493_6 : decode cJ0_coder_7d493 6 = .ok (.aload_n 0, 1) := by decide +kernel
theorem dJ0_coder_7d493_7 : decode cJ0_coder_7d493 7 = .ok (.getfield 15, 3) := by decide +kernel
theorem dJ0_coder_7d493_10 : decode cJ0_coder_7d493 10 = .ok (.goto 4, 3) := by decide +kernel
theorem dJ0_coder_7d493_13 : decode cJ0_coder_7d493 13 = .ok (.iconst 1, 1) := by decide +kernel
theorem dJ0_coder_7d493_14 : decode cJ0_coder_7d493 14 = .ok (.ireturn, 1) := by decide +kernel
theorem dJ0_isLatin1_aae02_0 : decode cJ0_isLatin1_aae02 0 = .ok (.getstatic 38, 3) := by decide +kernel
theorem dJ0_isLatin1_aae02_3 : decode cJ0_isLatin1_aae02 3 = .ok (.ifCond .eq 14, 3) := by decide +kernel
theorem dJ0_isLatin1_aae02_6 : decode cJ0_isLatin1_aae02 6 = .ok (.aload_n 0, 1) := by decide +kernel
theorem dJ0_isLatin1_aae02_7 : decode cJ0_isLatin1_aae02 7 = .ok (.getfield 15, 3) := by decide +kernel
theorem dJ0_isLatin1_aae02_10 : decode cJ0_isLatin1_aae02 10 = .ok (.ifCond .ne 7, 3) := by decide +kernel
theorem dJ0_isLatin1_aae02_13 : decode cJ0_isLatin1_aae02 13 = .ok (.iconst 1, 1) := by decide +kernel
theorem dJ0_isLatin1_aae02_14 : decode cJ0_isLatin1_aae02 14 = .ok (.goto 4, 3) := by decide +kernel
theorem dJ0_isLatin1_aae02_17 : decode cJ0_isLatin1_aae02 17 = .ok (.iconst 0, 1) := by decide +kernel
theorem dJ0_isLatin1_aae02_18 : decode cJ0_isLatin1_aae02 18 = .ok (.ireturn, 1) := by decide +kernel
theorem dJ0_checkIndex_df160_0 : decode cJ0_checkIndex_df160 0 = .ok (.iload_n 0, 1) := by decide +kernel
theorem dJ0_checkIndex_df160_1 : decode cJ0_checkIndex_df160 1 = .ok (.iload_n 1, 1) := by decide +kernel
theorem dJ0_checkIndex_df160_2 : decode cJ0_checkIndex_df160 2 = .ok (.getstatic 1053, 3) := by decide +kernel
theorem dJ0_checkIndex_df160_5 : decode cJ0_checkIndex_df160 5 = .ok (.invokestatic 1059, 3) := by decide +kernel
theorem dJ0_checkIndex_df160_8 : decode cJ0_checkIndex_df160 8 = .ok (.pop, 1) := by decide +kernel
theorem dJ0_checkIndex_df160_9 : decode cJ0_checkIndex_df160 9 = .ok (.return_, 1) := by decide +kernel
theorem dJ1_charAt_3b067_0 : decode cJ1_charAt_3b067 0 = .ok (.iload_n 1, 1) := by decide +kernel
theorem dJ1_charAt_3b067_1 : decode cJ1_charAt_3b067 1 = .ok (.aload_n 0, 1) := by decide +kernel
theorem dJ1_charAt_3b067_2 : decode cJ1_charAt_3b067 2 = .ok (.arraylength, 1) := by decide +kernel
theorem dJ1_charAt_3b067_3 : decode cJ1_charAt_3b067 3 = .ok (.invokestatic 9, 3) := by decide +kernel
theorem dJ1_charAt_3b067_6 : decode cJ1_charAt_3b067 6 = .ok (.aload_n 0, 1) := by decide +kernel
theorem dJ1_charAt_3b067_7 : decode cJ1_charAt_3b067 7 = .ok (.iload_n 1, 1) := by decide +kernel
theorem dJ1_charAt_3b067_8 : decode cJ1_charAt_3b067 8 = .ok (.baload, 1) := by decide +kernel
theorem dJ1_charAt_3b067_9 : decode cJ1_charAt_3b067 9 = .ok (.sipush 255, 3) := by decide +kernel
theorem dJ1_charAt_3b067_12 : decode cJ1_charAt_3b067 12 = .ok (.iand, 1) := by decide +kernel
theorem dJ1_charAt_3b067_13 : decode cJ1_charAt_3b067 13 = .ok (.i2c, 1) := by decide +kernel
theorem dJ1_charAt_3b067_14 : decode cJ1_charAt_3b067 14 = .ok (.ireturn, 1) := by decide +kernel
theorem dJ2_getChar_3b067_0 : decode cJ2_getChar_3b067 0 = .ok (.getstatic 44, 3) := by decide +kernel
theorem dJ2_getChar_3b067_3 : decode cJ2_getChar_3b067 3 = .ok (.ifCond .ne 25, 3) := by decide +kernel
theorem dJ2_getChar_3b067_6 : decode cJ2_getChar_3b067 6 = .ok (.iload_n 1, 1) := by decide +kernel
theorem dJ2_getChar_3b067_7 : decode cJ2_getChar_3b067 7 = .ok (.ifCond .lt 11, 3) := by decide +kernel
theorem dJ2_getChar_3b067_10 : decode cJ2_getChar_3b067 10 = .ok (.iload_n 1, 1) := by decide +kernel
theorem dJ2_getChar_3b067_11 : decode cJ2_getChar_3b067 11 = .ok (.aload_n 0, 1) := by decide +kernel
theorem dJ2_getChar_3b067_12 : decode cJ2_getChar_3b067 12 = .ok (.invokestatic 48, 3) := by decide +kernel
theorem dJ2_getChar_3b067_15 : decode cJ2_getChar_3b067 15 = .ok (.if_icmp .lt 13, 3) := by decide +kernel
theorem dJ2_getChar_3b067_18 : decode cJ2_getChar_3b067 18 = .ok (.new 52, 3) := by decide +kernel
theorem dJ2_getChar_3b067_21 : decode cJ2_getChar_3b067 21 = .ok (.dup, 1) := by decide +kernel
theorem dJ2_getChar_3b067_22 : decode cJ2_getChar_3b067 22 = .ok (.ldc 54, 2) := by decide +kernel
theorem dJ2_getChar_3b067_24 : decode cJ2_getChar_3b067 24 = .ok (.invokespecial 56, 3) := by decide +kernel
theorem dJ2_getChar_3b067_27 : decode cJ2_getChar_3b067 27 = .ok (.athrow, 1) := by decide +kernel
theorem dJ2_getChar_3b067_28 : decode cJ2_getChar_3b067 28 = .ok (.iload_n 1, 1) := by decide +kernel
theorem dJ2_getChar_3b067_29 : decode cJ2_getChar_3b067 29 = .ok (.iconst 1, 1) := by decide +kernel
theorem dJ2_getChar_3b067_30 : decode cJ2_getChar_3b067 30 = .ok (.ishl, 1) := by decide +kernel
theorem dJ2_getChar_3b067_31 : decode cJ2_getChar_3b067 31 = .ok (.istore_n 1, 1) := by decide +kernel
theorem dJ2_getChar_3b067_32 : decode cJ2_getChar_3b067 32 = .ok (.aload_n 0, 1) := by decide +kernel
theorem dJ2_getChar_3b067_33 : decode cJ2_getChar_3b067 33 = .ok (.iload_n 1, 1) := by decide +kernel
theorem dJ2_getChar_3b067_34 : decode cJ2_getChar_3b067 34 = .ok (.iinc 1 1, 3) := by decide +kernel
theorem dJ2_getChar_3b067_37 : decode cJ2_getChar_3b067 37 = .ok (.baload, 1) := by decide +kernel
theorem dJ2_getChar_3b067_38 : decode cJ2_getChar_3b067 38 = .ok (.sipush 255, 3) := by decide +kernel
theorem dJ2_getChar_3b067_41 : decode cJ2_getChar_3b067 41 = .ok (.iand, 1) := by decide +kernel
theorem dJ2_getChar_3b067_42 : decode cJ2_getChar_3b067 42 = .ok (.getstatic 59, 3) := by decide +kernel
theorem dJ2_getChar_3b067_45 : decode cJ2_getChar_3b067 45 = .ok (.ishl, 1) := by decide +kernel
theorem dJ2_getChar_3b067_46 : decode cJ2_getChar_3b067 46 = .ok (.aload_n 0, 1) := by decide +kernel
theorem dJ2_getChar_3b067_47 : decode cJ2_getChar_3b067 47 = .ok (.iload_n 1, 1) := by decide +kernel
theorem dJ2_getChar_3b067_48 : decode cJ2_getChar_3b067 48 = .ok (.baload, 1) := by decide +kernel
theorem dJ2_getChar_3b067_49 : decode cJ2_getChar_3b067 49 = .ok (.sipush 255, 3) := by decide +kernel
theorem dJ2_getChar_3b067_52 : decode cJ2_getChar_3b067 52 = .ok (.iand, 1) := by decide +kernel
theorem dJ2_getChar_3b067_53 : decode cJ2_getChar_3b067 53 = .ok (.getstatic 63, 3) := by decide +kernel
theorem dJ2_getChar_3b067_56 : decode cJ2_getChar_3b067 56 = .ok (.ishl, 1) := by decide +kernel
theorem dJ2_getChar_3b067_57 : decode cJ2_getChar_3b067 57 = .ok (.ior, 1) := by decide +kernel
theorem dJ2_getChar_3b067_58 : decode cJ2_getChar_3b067 58 = .ok (.i2c, 1) := by decide +kernel
theorem dJ2_getChar_3b067_59 : decode cJ2_getChar_3b067 59 = .ok (.ireturn, 1) := by decide +kernel
theorem dJ2_length_9d52b_0 : decode cJ2_length_9d52b 0 = .ok (.aload_n 0, 1) := by decide +kernel
theorem dJ2_length_9d52b_1 : decode cJ2_length_9d52b 1 = .ok (.arraylength, 1) := by decide +kernel
theorem dJ2_length_9d52b_2 : decode cJ2_length_9d52b 2 = .ok (.iconst 1, 1) := by decide +kernel
theorem dJ2_length_9d52b_3 : decode cJ2_length_9d52b 3 = .ok (.ishr, 1) := by decide +kernel
theorem dJ2_length_9d52b_4 : decode cJ2_length_9d52b 4 = .ok (.ireturn, 1) := by decide +kernel
theorem dJ2_charAt_3b067_0 : decode cJ2_charAt_3b067 0 = .ok (.iload_n 1, 1) := by decide +kernel
theorem dJ2_charAt_3b067_1 : decode cJ2_charAt_3b067 1 = .ok (.aload_n 0, 1) := by decide +kernel
theorem dJ2_charAt_3b067_2 : decode cJ2_charAt_3b067 2 = .ok (.invokestatic 67, 3) := by decide +kernel
theorem dJ2_charAt_3b067_5 : decode cJ2_charAt_3b067 5 = .ok (.aload_n 0, 1) := by decide +kernel
theorem dJ2_charAt_3b067_6 : decode cJ2_charAt_3b067 6 = .ok (.iload_n 1, 1) := by decide +kernel
theorem dJ2_charAt_3b067_7 : decode cJ2_charAt_3b067 7 = .ok (.invokestatic 71, 3) := by decide +kernel
theorem dJ2_charAt_3b067_10 : decode cJ2_charAt_3b067 10 = .ok (.ireturn, 1) := by decide +kernel
theorem dJ2_checkIndex_2214a_0 : decode cJ2_checkIndex_2214a 0 = .ok (.iload_n 0, 1) := by decide +kernel
theorem dJ2_checkIndex_2214a_1 : decode cJ2_checkIndex_2214a 1 = .ok (.aload_n 1, 1) := by decide +kernel
theorem dJ2_checkIndex_2214a_2 : decode cJ2_checkIndex_2214a 2 = .ok (.invokestatic 48, 3) := by decide +kernel
theorem dJ2_checkIndex_2214a_5 : decode cJ2_checkIndex_2214a 5 = .ok (.invokestatic 414, 3) := by decide +kernel
theorem dJ2_checkIndex_2214a_8 : decode cJ2_checkIndex_2214a 8 = .ok (.return_, 1) := by decide +kernel
theorem dJ7_fill_53178_0 : decode cJ7_fill_53178 0 = .ok (.iconst 0, 1) := by decide +kernel
theorem dJ7_fill_53178_1 : decode cJ7_fill_53178 1 = .ok (.istore_n 2, 1) := by decide +kernel
theorem dJ7_fill_53178_2 : decode cJ7_fill_53178 2 = .ok (.aload_n 0, 1) := by decide +kernel
theorem dJ7_fill_53178_3 : decode cJ7_fill_53178 3 = .ok (.arraylength, 1) := by decide +kernel
theorem dJ7_fill_53178_4 : decode cJ7_fill_53178 4 = .ok (.istore_n 3, 1) := by decide +kernel
theorem dJ7_fill_53178_5 : decode cJ7_fill_53178 5 = .ok (.iload_n 2, 1) := by decide +kernel
theorem dJ7_fill_53178_6 : decode cJ7_fill_53178 6 = .ok (.iload_n 3, 1) := by decide +kernel
theorem dJ7_fill_53178_7 : decode cJ7_fill_53178 7 = .ok (.if_icmp .ge 13, 3) := by decide +kernel
theorem dJ7_fill_53178_10 : decode cJ7_fill_53178 10 = .ok (.aload_n 0, 1) := by decide +kernel
theorem dJ7_fill_53178_11 : decode cJ7_fill_53178 11 = .ok (.iload_n 2, 1) := by decide +kernel
theorem dJ7_fill_53178_12 : decode cJ7_fill_53178 12 = .ok (.iload_n 1, 1) := by decide +kernel
theorem dJ7_fill_53178_13 : decode cJ7_fill_53178 13 = .ok (.iastore, 1) := by decide +kernel
theorem dJ7_fill_53178_14 : decode cJ7_fill_53178 14 = .ok (.iinc 2 1, 3) := by decide +kernel
theorem dJ7_fill_53178_17 : decode cJ7_fill_53178 17 = .ok (.goto (-12), 3) := by decide +kernel
theorem dJ7_fill_53178_20 : decode cJ7_fill_53178 20 = .ok (.return_, 1) := by decide +kernel
theorem dJ3_checkIndex_8e157_0 : decode cJ3_checkIndex_8e157 0 = .ok (.iload_n 0, 1) := by decide +kernel
theorem dJ3_checkIndex_8e157_1 : decode cJ3_checkIndex_8e157 1 = .ok (.ifCond .lt 8, 3) := by decide +kernel
theorem dJ3_checkIndex_8e157_4 : decode cJ3_checkIndex_8e157 4 = .ok (.iload_n 0, 1) := by decide +kernel
theorem dJ3_checkIndex_8e157_5 : decode cJ3_checkIndex_8e157 5 = .ok (.iload_n 1, 1) := by decide +kernel
theorem dJ3_checkIndex_8e157_6 : decode cJ3_checkIndex_8e157 6 = .ok (.if_icmp .lt 10, 3) := by decide +kernel
theorem dJ3_checkIndex_8e157_9 : decode cJ3_checkIndex_8e157 9 = .ok (.aload_n 2, 1) := by decide +kernel
theorem dJ3_checkIndex_8e157_10 : decode cJ3_checkIndex_8e157 10 = .ok (.iload_n 0, 1) := by decide +kernel
theorem dJ3_checkIndex_8e157_11 : decode cJ3_checkIndex_8e157 11 = .ok (.iload_n 1, 1) := by decide +kernel
theorem dJ3_checkIndex_8e157_12 : decode cJ3_checkIndex_8e157 12 = .ok (.invokestatic 95, 3) := by decide +kernel
theorem dJ3_checkIndex_8e157_15 : decode cJ3_checkIndex_8e157 15 = .ok (.athrow, 1) := by decide +kernel
theorem dJ3_checkIndex_8e157_16 : decode cJ3_checkIndex_8e157 16 = .ok (.iload_n 0, 1) := by decide +kernel
theorem dJ3_checkIndex_8e157_17 : decode cJ3_checkIndex_8e157 17 = .ok (.ireturn, 1) := by decide +kernel
theorem dL_addPlate_0 : decode cL_addPlate 0 = .ok (.aload_n 2, 1) := by decide +kernel
theorem dL_addPlate_1 : decode cL_addPlate 1 = .ok (.iconst 0, 1) := by decide +kernel
theorem dL_addPlate_2 : decode cL_addPlate 2 = .ok (.aload_n 0, 1) := by decide +kernel
theorem dL_addPlate_3 : decode cL_addPlate 3 = .ok (.iload_n 1, 1) := by decide +kernel
theorem dL_addPlate_4 : decode cL_addPlate 4 = .ok (.invokevirtual 7, 3) := by decide +kernel
theorem dL_addPlate_7 : decode cL_addPlate 7 = .ok (.i2l, 1) := by decide +kernel
theorem dL_addPlate_8 : decode cL_addPlate 8 = .ok (.lastore, 1) := by decide +kernel
theorem dL_addPlate_9 : decode cL_addPlate 9 = .ok (.goto 9, 3) := by decide +kernel
theorem dL_addPlate_12 : decode cL_addPlate 12 = .ok (.astore_n 3, 1) := by decide +kernel
theorem dL_addPlate_13 : decode cL_addPlate 13 = .ok (.iconst 1, 1) := by decide +kernel
theorem dL_addPlate_14 : decode cL_addPlate 14 = .ok (.ireturn, 1) := by decide +kernel
theorem dL_addPlate_15 : decode cL_addPlate 15 = .ok (.astore_n 3, 1) := by decide +kernel
theorem dL_addPlate_16 : decode cL_addPlate 16 = .ok (.iconst 2, 1) := by decide +kernel
theorem dL_addPlate_17 : decode cL_addPlate 17 = .ok (.ireturn, 1) := by decide +kernel
theorem dL_addPlate_18 : decode cL_addPlate 18 = .ok (.iconst 0, 1) := by decide +kernel
theorem dL_addPlate_19 : decode cL_addPlate 19 = .ok (.ireturn, 1) := by decide +kernel
theorem dL_addStar_0 : decode cL_addStar 0 = .ok (.aload 4, 2) := by decide +kernel
theorem dL_addStar_2 : decode cL_addStar 2 = .ok (.iconst 0, 1) := by decide +kernel
theorem dL_addStar_3 : decode cL_addStar 3 = .ok (.aload_n 0, 1) := by decide +kernel
theorem dL_addStar_4 : decode cL_addStar 4 = .ok (.iload_n 1, 1) := by decide +kernel
theorem dL_addStar_5 : decode cL_addStar 5 = .ok (.iload_n 2, 1) := by decide +kernel
theorem dL_addStar_6 : decode cL_addStar 6 = .ok (.iload_n 3, 1) := by decide +kernel
theorem dL_addStar_7 : decode cL_addStar 7 = .ok (.invokevirtual 17, 3) := by decide +kernel
theorem dL_addStar_10 : decode cL_addStar 10 = .ok (.i2l, 1) := by decide +kernel
theorem dL_addStar_11 : decode cL_addStar 11 = .ok (.lastore, 1) := by decide +kernel
theorem dL_addStar_12 : decode cL_addStar 12 = .ok (.goto 15, 3) := by decide +kernel
theorem dL_addStar_15 : decode cL_addStar 15 = .ok (.astore 5, 2) := by decide +kernel
theorem dL_addStar_17 : decode cL_addStar 17 = .ok (.iconst 1, 1) := by decide +kernel
theorem dL_addStar_18 : decode cL_addStar 18 = .ok (.ireturn, 1) := by decide +kernel
theorem dL_addStar_19 : decode cL_addStar 19 = .ok (.astore 5, 2) := by decide +kernel
theorem dL_addStar_21 : decode cL_addStar 21 = .ok (.iconst 2, 1) := by decide +kernel
theorem dL_addStar_22 : decode cL_addStar 22 = .ok (.ireturn, 1) := by decide +kernel
theorem dL_addStar_23 : decode cL_addStar 23 = .ok (.astore 5, 2) := by decide +kernel
theorem dL_addStar_25 : decode cL_addStar 25 = .ok (.iconst 3, 1) := by decide +kernel
theorem dL_addStar_26 : decode cL_addStar 26 = .ok (.ireturn, 1) := by decide +kernel
theorem dL_addStar_27 : decode cL_addStar 27 = .ok (.iconst 0, 1) := by decide +kernel
theorem dL_addStar_28 : decode cL_addStar 28 = .ok (.ireturn, 1) := by decide +kernel
theorem dL_removeStar_0 : decode cL_removeStar 0 = .ok (.aload 4, 2) := by decide +kernel
theorem dL_removeStar_2 : decode cL_removeStar 2 = .ok (.iconst 0, 1) := by decide +kernel
theorem dL_removeStar_3 : decode cL_removeStar 3 = .ok (.aload_n 0, 1) := by decide +kernel
theorem dL_removeStar_4 : decode cL_removeStar 4 = .ok (.iload_n 1, 1) := by decide +kernel
theorem dL_removeStar_5 : decode cL_removeStar 5 = .ok (.iload_n 2, 1) := by decide +kernel
theorem dL_removeStar_6 : decode cL_removeStar 6 = .ok (.iload_n 3, 1) := by decide +kernel
theorem dL_removeStar_7 : decode cL_removeStar 7 = .ok (.invokevirtual 23, 3) := by decide +kernel
theorem dL_removeStar_10 : decode cL_removeStar 10 = .ok (.i2l, 1) := by decide +kernel
theorem dL_removeStar_11 : decode cL_removeStar 11 = .ok (.lastore, 1) := by decide +kernel
theorem dL_removeStar_12 : decode cL_removeStar 12 = .ok (.goto 15, 3) := by decide +kernel
theorem dL_removeStar_15 : decode cL_removeStar 15 = .ok (.astore 5, 2) := by decide +kernel
theorem dL_removeStar_17 : decode cL_removeStar 17 = .ok (.iconst 1, 1) := by decide +kernel
theorem dL_removeStar_18 : decode cL_removeStar 18 = .ok (.ireturn, 1) := by decide +kernel
theorem dL_removeStar_19 : decode cL_removeStar 19 = .ok (.astore 5, 2) := by decide +kernel
theorem dL_removeStar_21 : decode cL_removeStar 21 = .ok (.iconst 2, 1) := by decide +kernel
theorem dL_removeStar_22 : decode cL_removeStar 22 = .ok (.ireturn, 1) := by decide +kernel
theorem dL_removeStar_23 : decode cL_removeStar 23 = .ok (.astore 5, 2) := by decide +kernel
theorem dL_removeStar_25 : decode cL_removeStar 25 = .ok (.iconst 3, 1) := by decide +kernel
theorem dL_removeStar_26 : decode cL_removeStar 26 = .ok (.ireturn, 1) := by decide +kernel
theorem dL_removeStar_27 : decode cL_removeStar 27 = .ok (.iconst 0, 1) := by decide +kernel
theorem dL_removeStar_28 : decode cL_removeStar 28 = .ok (.ireturn, 1) := by decide +kernel
theorem dL_setShift_0 : decode cL_setShift 0 = .ok (.aload 4, 2) := by decide +kernel
theorem dL_setShift_2 : decode cL_setShift 2 = .ok (.iconst 0, 1) := by decide +kernel
theorem dL_setShift_3 : decode cL_setShift 3 = .ok (.aload_n 0, 1) := by decide +kernel
theorem dL_setShift_4 : decode cL_setShift 4 = .ok (.iload_n 1, 1) := by decide +kernel
theorem dL_setShift_5 : decode cL_setShift 5 = .ok (.iload_n 2, 1) := by decide +kernel
theorem dL_setShift_6 : decode cL_setShift 6 = .ok (.iload_n 3, 1) := by decide +kernel
theorem dL_setShift_7 : decode cL_setShift 7 = .ok (.invokevirtual 28, 3) := by decide +kernel
theorem dL_setShift_10 : decode cL_setShift 10 = .ok (.i2l, 1) := by decide +kernel
theorem dL_setShift_11 : decode cL_setShift 11 = .ok (.lastore, 1) := by decide +kernel
theorem dL_setShift_12 : decode cL_setShift 12 = .ok (.goto 11, 3) := by decide +kernel
theorem dL_setShift_15 : decode cL_setShift 15 = .ok (.astore 5, 2) := by decide +kernel
theorem dL_setShift_17 : decode cL_setShift 17 = .ok (.iconst 1, 1) := by decide +kernel
theorem dL_setShift_18 : decode cL_setShift 18 = .ok (.ireturn, 1) := by decide +kernel
theorem dL_setShift_19 : decode cL_setShift 19 = .ok (.astore 5, 2) := by decide +kernel
theorem dL_setShift_21 : decode cL_setShift 21 = .ok (.iconst 2, 1) := by decide +kernel
theorem dL_setShift_22 : decode cL_setShift 22 = .ok (.ireturn, 1) := by decide +kernel
theorem dL_setShift_23 : decode cL_setShift 23 = .ok (.iconst 0, 1) := by decide +kernel
theorem dL_setShift_24 : decode cL_setShift 24 = .ok (.ireturn, 1) := by decide +kernel
theorem dL_fit_0 : decode cL_fit 0 = .ok (.aload_n 3, 1) := by decide +kernel
theorem dL_fit_1 : decode cL_fit 1 = .ok (.iconst 0, 1) := by decide +kernel
theorem dL_fit_2 : decode cL_fit 2 = .ok (.aload_n 0, 1) := by decide +kernel
theorem dL_fit_3 : decode cL_fit 3 = .ok (.iload_n 1, 1) := by decide +kernel
theorem dL_fit_4 : decode cL_fit 4 = .ok (.iload_n 2, 1) := by decide +kernel
theorem dL_fit_5 : decode cL_fit 5 = .ok (.invokevirtual 31, 3) := by decide +kernel
theorem dL_fit_8 : decode cL_fit 8 = .ok (.i2l, 1) := by decide +kernel
theorem dL_fit_9 : decode cL_fit 9 = .ok (.lastore, 1) := by decide +kernel
theorem dL_fit_10 : decode cL_fit 10 = .ok (.goto 11, 3) := by decide +kernel
theorem dL_fit_13 : decode cL_fit 13 = .ok (.astore 4, 2) := by decide +kernel
theorem dL_fit_15 : decode cL_fit 15 = .ok (.iconst 1, 1) := by decide +kernel
theorem dL_fit_16 : decode cL_fit 16 = .ok (.ireturn, 1) := by decide +kernel
theorem dL_fit_17 : decode cL_fit 17 = .ok (.astore 4, 2) := by decide +kernel
theorem dL_fit_19 : decode cL_fit 19 = .ok (.iconst 2, 1) := by decide +kernel
theorem dL_fit_20 : decode cL_fit 20 = .ok (.ireturn, 1) := by decide +kernel
theorem dL_fit_21 : decode cL_fit 21 = .ok (.iconst 0, 1) := by decide +kernel
theorem dL_fit_22 : decode cL_fit 22 = .ok (.ireturn, 1) := by decide +kernel
theorem dL_inkOf_0 : decode cL_inkOf 0 = .ok (.aload_n 2, 1) := by decide +kernel
theorem dL_inkOf_1 : decode cL_inkOf 1 = .ok (.iconst 0, 1) := by decide +kernel
theorem dL_inkOf_2 : decode cL_inkOf 2 = .ok (.aload_n 0, 1) := by decide +kernel
theorem dL_inkOf_3 : decode cL_inkOf 3 = .ok (.iload_n 1, 1) := by decide +kernel
theorem dL_inkOf_4 : decode cL_inkOf 4 = .ok (.invokevirtual 35, 3) := by decide +kernel
theorem dL_inkOf_7 : decode cL_inkOf 7 = .ok (.i2l, 1) := by decide +kernel
theorem dL_inkOf_8 : decode cL_inkOf 8 = .ok (.lastore, 1) := by decide +kernel
theorem dL_inkOf_9 : decode cL_inkOf 9 = .ok (.goto 6, 3) := by decide +kernel
theorem dL_inkOf_12 : decode cL_inkOf 12 = .ok (.astore_n 3, 1) := by decide +kernel
theorem dL_inkOf_13 : decode cL_inkOf 13 = .ok (.iconst 1, 1) := by decide +kernel
theorem dL_inkOf_14 : decode cL_inkOf 14 = .ok (.ireturn, 1) := by decide +kernel
theorem dL_inkOf_15 : decode cL_inkOf 15 = .ok (.iconst 0, 1) := by decide +kernel
theorem dL_inkOf_16 : decode cL_inkOf 16 = .ok (.ireturn, 1) := by decide +kernel
theorem dL_starCount_0 : decode cL_starCount 0 = .ok (.aload_n 2, 1) := by decide +kernel
theorem dL_starCount_1 : decode cL_starCount 1 = .ok (.iconst 0, 1) := by decide +kernel
theorem dL_starCount_2 : decode cL_starCount 2 = .ok (.aload_n 0, 1) := by decide +kernel
theorem dL_starCount_3 : decode cL_starCount 3 = .ok (.iload_n 1, 1) := by decide +kernel
theorem dL_starCount_4 : decode cL_starCount 4 = .ok (.invokevirtual 38, 3) := by decide +kernel
theorem dL_starCount_7 : decode cL_starCount 7 = .ok (.i2l, 1) := by decide +kernel
theorem dL_starCount_8 : decode cL_starCount 8 = .ok (.lastore, 1) := by decide +kernel
theorem dL_starCount_9 : decode cL_starCount 9 = .ok (.goto 6, 3) := by decide +kernel
theorem dL_starCount_12 : decode cL_starCount 12 = .ok (.astore_n 3, 1) := by decide +kernel
theorem dL_starCount_13 : decode cL_starCount 13 = .ok (.iconst 1, 1) := by decide +kernel
theorem dL_starCount_14 : decode cL_starCount 14 = .ok (.ireturn, 1) := by decide +kernel
theorem dL_starCount_15 : decode cL_starCount 15 = .ok (.iconst 0, 1) := by decide +kernel
theorem dL_starCount_16 : decode cL_starCount 16 = .ok (.ireturn, 1) := by decide +kernel
theorem dL_hasStar_0 : decode cL_hasStar 0 = .ok (.aload 4, 2) := by decide +kernel
theorem dL_hasStar_2 : decode cL_hasStar 2 = .ok (.iconst 0, 1) := by decide +kernel
theorem dL_hasStar_3 : decode cL_hasStar 3 = .ok (.aload_n 0, 1) := by decide +kernel
theorem dL_hasStar_4 : decode cL_hasStar 4 = .ok (.iload_n 1, 1) := by decide +kernel
theorem dL_hasStar_5 : decode cL_hasStar 5 = .ok (.iload_n 2, 1) := by decide +kernel
theorem dL_hasStar_6 : decode cL_hasStar 6 = .ok (.iload_n 3, 1) := by decide +kernel
theorem dL_hasStar_7 : decode cL_hasStar 7 = .ok (.invokevirtual 41, 3) := by decide +kernel
theorem dL_hasStar_10 : decode cL_hasStar 10 = .ok (.ifCond .eq 7, 3) := by decide +kernel
theorem dL_hasStar_13 : decode cL_hasStar 13 = .ok (.lconst 1, 1) := by decide +kernel
theorem dL_hasStar_14 : decode cL_hasStar 14 = .ok (.goto 4, 3) := by decide +kernel
theorem dL_hasStar_17 : decode cL_hasStar 17 = .ok (.lconst 0, 1) := by decide +kernel
theorem dL_hasStar_18 : decode cL_hasStar 18 = .ok (.lastore, 1) := by decide +kernel
theorem dL_hasStar_19 : decode cL_hasStar 19 = .ok (.goto 11, 3) := by decide +kernel
theorem dL_hasStar_22 : decode cL_hasStar 22 = .ok (.astore 5, 2) := by decide +kernel
theorem dL_hasStar_24 : decode cL_hasStar 24 = .ok (.iconst 1, 1) := by decide +kernel
theorem dL_hasStar_25 : decode cL_hasStar 25 = .ok (.ireturn, 1) := by decide +kernel
theorem dL_hasStar_26 : decode cL_hasStar 26 = .ok (.astore 5, 2) := by decide +kernel
theorem dL_hasStar_28 : decode cL_hasStar 28 = .ok (.iconst 2, 1) := by decide +kernel
theorem dL_hasStar_29 : decode cL_hasStar 29 = .ok (.ireturn, 1) := by decide +kernel
theorem dL_hasStar_30 : decode cL_hasStar 30 = .ok (.iconst 0, 1) := by decide +kernel
theorem dL_hasStar_31 : decode cL_hasStar 31 = .ok (.ireturn, 1) := by decide +kernel
theorem dL_shiftX_0 : decode cL_shiftX 0 = .ok (.aload_n 2, 1) := by decide +kernel
theorem dL_shiftX_1 : decode cL_shiftX 1 = .ok (.iconst 0, 1) := by decide +kernel
theorem dL_shiftX_2 : decode cL_shiftX 2 = .ok (.aload_n 0, 1) := by decide +kernel
theorem dL_shiftX_3 : decode cL_shiftX 3 = .ok (.iload_n 1, 1) := by decide +kernel
theorem dL_shiftX_4 : decode cL_shiftX 4 = .ok (.invokevirtual 45, 3) := by decide +kernel
theorem dL_shiftX_7 : decode cL_shiftX 7 = .ok (.i2l, 1) := by decide +kernel
theorem dL_shiftX_8 : decode cL_shiftX 8 = .ok (.lastore, 1) := by decide +kernel
theorem dL_shiftX_9 : decode cL_shiftX 9 = .ok (.goto 6, 3) := by decide +kernel
theorem dL_shiftX_12 : decode cL_shiftX 12 = .ok (.astore_n 3, 1) := by decide +kernel
theorem dL_shiftX_13 : decode cL_shiftX 13 = .ok (.iconst 1, 1) := by decide +kernel
theorem dL_shiftX_14 : decode cL_shiftX 14 = .ok (.ireturn, 1) := by decide +kernel
theorem dL_shiftX_15 : decode cL_shiftX 15 = .ok (.iconst 0, 1) := by decide +kernel
theorem dL_shiftX_16 : decode cL_shiftX 16 = .ok (.ireturn, 1) := by decide +kernel
theorem dL_shiftY_0 : decode cL_shiftY 0 = .ok (.aload_n 2, 1) := by decide +kernel
theorem dL_shiftY_1 : decode cL_shiftY 1 = .ok (.iconst 0, 1) := by decide +kernel
theorem dL_shiftY_2 : decode cL_shiftY 2 = .ok (.aload_n 0, 1) := by decide +kernel
theorem dL_shiftY_3 : decode cL_shiftY 3 = .ok (.iload_n 1, 1) := by decide +kernel
theorem dL_shiftY_4 : decode cL_shiftY 4 = .ok (.invokevirtual 48, 3) := by decide +kernel
theorem dL_shiftY_7 : decode cL_shiftY 7 = .ok (.i2l, 1) := by decide +kernel
theorem dL_shiftY_8 : decode cL_shiftY 8 = .ok (.lastore, 1) := by decide +kernel
theorem dL_shiftY_9 : decode cL_shiftY 9 = .ok (.goto 6, 3) := by decide +kernel
theorem dL_shiftY_12 : decode cL_shiftY 12 = .ok (.astore_n 3, 1) := by decide +kernel
theorem dL_shiftY_13 : decode cL_shiftY 13 = .ok (.iconst 1, 1) := by decide +kernel
theorem dL_shiftY_14 : decode cL_shiftY 14 = .ok (.ireturn, 1) := by decide +kernel
theorem dL_shiftY_15 : decode cL_shiftY 15 = .ok (.iconst 0, 1) := by decide +kernel
theorem dL_shiftY_16 : decode cL_shiftY 16 = .ok (.ireturn, 1) := by decide +kernel
theorem dL_matches_0 : decode cL_matches 0 = .ok (.aload 5, 2) := by decide +kernel
theorem dL_matches_2 : decode cL_matches 2 = .ok (.iconst 0, 1) := by decide +kernel
theorem dL_matches_3 : decode cL_matches 3 = .ok (.aload_n 0, 1) := by decide +kernel
theorem dL_matches_4 : decode cL_matches 4 = .ok (.iload_n 1, 1) := by decide +kernel
theorem dL_matches_5 : decode cL_matches 5 = .ok (.iload_n 2, 1) := by decide +kernel
theorem dL_matches_6 : decode cL_matches 6 = .ok (.iload_n 3, 1) := by decide +kernel
theorem dL_matches_7 : decode cL_matches 7 = .ok (.iload 4, 2) := by decide +kernel
theorem dL_matches_9 : decode cL_matches 9 = .ok (.invokevirtual 51, 3) := by decide +kernel
theorem dL_matches_12 : decode cL_matches 12 = .ok (.i2l, 1) := by decide +kernel
theorem dL_matches_13 : decode cL_matches 13 = .ok (.lastore, 1) := by decide +kernel
theorem dL_matches_14 : decode cL_matches 14 = .ok (.goto 11, 3) := by decide +kernel
theorem dL_matches_17 : decode cL_matches 17 = .ok (.astore 6, 2) := by decide +kernel
theorem dL_matches_19 : decode cL_matches 19 = .ok (.iconst 1, 1) := by decide +kernel
theorem dL_matches_20 : decode cL_matches 20 = .ok (.ireturn, 1) := by decide +kernel
theorem dL_matches_21 : decode cL_matches 21 = .ok (.astore 6, 2) := by decide +kernel
theorem dL_matches_23 : decode cL_matches 23 = .ok (.iconst 2, 1) := by decide +kernel
theorem dL_matches_24 : decode cL_matches 24 = .ok (.ireturn, 1) := by decide +kernel
theorem dL_matches_25 : decode cL_matches 25 = .ok (.iconst 0, 1) := by decide +kernel
theorem dL_matches_26 : decode cL_matches 26 = .ok (.ireturn, 1) := by decide +kernel
theorem dL_mostMatches_0 : decode cL_mostMatches 0 = .ok (.aload_n 3, 1) := by decide +kernel
theorem dL_mostMatches_1 : decode cL_mostMatches 1 = .ok (.iconst 0, 1) := by decide +kernel
theorem dL_mostMatches_2 : decode cL_mostMatches 2 = .ok (.aload_n 0, 1) := by decide +kernel
theorem dL_mostMatches_3 : decode cL_mostMatches 3 = .ok (.iload_n 1, 1) := by decide +kernel
theorem dL_mostMatches_4 : decode cL_mostMatches 4 = .ok (.iload_n 2, 1) := by decide +kernel
theorem dL_mostMatches_5 : decode cL_mostMatches 5 = .ok (.invokevirtual 55, 3) := by decide +kernel
theorem dL_mostMatches_8 : decode cL_mostMatches 8 = .ok (.i2l, 1) := by decide +kernel
theorem dL_mostMatches_9 : decode cL_mostMatches 9 = .ok (.lastore, 1) := by decide +kernel
theorem dL_mostMatches_10 : decode cL_mostMatches 10 = .ok (.goto 7, 3) := by decide +kernel
theorem dL_mostMatches_13 : decode cL_mostMatches 13 = .ok (.astore 4, 2) := by decide +kernel
theorem dL_mostMatches_15 : decode cL_mostMatches 15 = .ok (.iconst 1, 1) := by decide +kernel
theorem dL_mostMatches_16 : decode cL_mostMatches 16 = .ok (.ireturn, 1) := by decide +kernel
theorem dL_mostMatches_17 : decode cL_mostMatches 17 = .ok (.iconst 0, 1) := by decide +kernel
theorem dL_mostMatches_18 : decode cL_mostMatches 18 = .ok (.ireturn, 1) := by decide +kernel
theorem dL_mostMatchesByPairs_0 : decode cL_mostMatchesByPairs 0 = .ok (.aload_n 3, 1) := by decide +kernel
theorem dL_mostMatchesByPairs_1 : decode cL_mostMatchesByPairs 1 = .ok (.iconst 0, 1) := by decide +kernel
theorem dL_mostMatchesByPairs_2 : decode cL_mostMatchesByPairs 2 = .ok (.aload_n 0, 1) := by decide +kernel
theorem dL_mostMatchesByPairs_3 : decode cL_mostMatchesByPairs 3 = .ok (.iload_n 1, 1) := by decide +kernel
theorem dL_mostMatchesByPairs_4 : decode cL_mostMatchesByPairs 4 = .ok (.iload_n 2, 1) := by decide +kernel
theorem dL_mostMatchesByPairs_5 : decode cL_mostMatchesByPairs 5 = .ok (.invokevirtual 58, 3) := by decide +kernel
theorem dL_mostMatchesByPairs_8 : decode cL_mostMatchesByPairs 8 = .ok (.i2l, 1) := by decide +kernel
theorem dL_mostMatchesByPairs_9 : decode cL_mostMatchesByPairs 9 = .ok (.lastore, 1) := by decide +kernel
theorem dL_mostMatchesByPairs_10 : decode cL_mostMatchesByPairs 10 = .ok (.goto 7, 3) := by decide +kernel
theorem dL_mostMatchesByPairs_13 : decode cL_mostMatchesByPairs 13 = .ok (.astore 4, 2) := by decide +kernel
theorem dL_mostMatchesByPairs_15 : decode cL_mostMatchesByPairs 15 = .ok (.iconst 1, 1) := by decide +kernel
theorem dL_mostMatchesByPairs_16 : decode cL_mostMatchesByPairs 16 = .ok (.ireturn, 1) := by decide +kernel
theorem dL_mostMatchesByPairs_17 : decode cL_mostMatchesByPairs 17 = .ok (.iconst 0, 1) := by decide +kernel
theorem dL_mostMatchesByPairs_18 : decode cL_mostMatchesByPairs 18 = .ok (.ireturn, 1) := by decide +kernel
theorem dL_bestShiftX_0 : decode cL_bestShiftX 0 = .ok (.aload_n 3, 1) := by decide +kernel
theorem dL_bestShiftX_1 : decode cL_bestShiftX 1 = .ok (.iconst 0, 1) := by decide +kernel
theorem dL_bestShiftX_2 : decode cL_bestShiftX 2 = .ok (.aload_n 0, 1) := by decide +kernel
theorem dL_bestShiftX_3 : decode cL_bestShiftX 3 = .ok (.iload_n 1, 1) := by decide +kernel
theorem dL_bestShiftX_4 : decode cL_bestShiftX 4 = .ok (.iload_n 2, 1) := by decide +kernel
theorem dL_bestShiftX_5 : decode cL_bestShiftX 5 = .ok (.invokevirtual 61, 3) := by decide +kernel
theorem dL_bestShiftX_8 : decode cL_bestShiftX 8 = .ok (.i2l, 1) := by decide +kernel
theorem dL_bestShiftX_9 : decode cL_bestShiftX 9 = .ok (.lastore, 1) := by decide +kernel
theorem dL_bestShiftX_10 : decode cL_bestShiftX 10 = .ok (.goto 7, 3) := by decide +kernel
theorem dL_bestShiftX_13 : decode cL_bestShiftX 13 = .ok (.astore 4, 2) := by decide +kernel
theorem dL_bestShiftX_15 : decode cL_bestShiftX 15 = .ok (.iconst 1, 1) := by decide +kernel
theorem dL_bestShiftX_16 : decode cL_bestShiftX 16 = .ok (.ireturn, 1) := by decide +kernel
theorem dL_bestShiftX_17 : decode cL_bestShiftX 17 = .ok (.iconst 0, 1) := by decide +kernel
theorem dL_bestShiftX_18 : decode cL_bestShiftX 18 = .ok (.ireturn, 1) := by decide +kernel
theorem dL_bestShiftY_0 : decode cL_bestShiftY 0 = .ok (.aload_n 3, 1) := by decide +kernel
theorem dL_bestShiftY_1 : decode cL_bestShiftY 1 = .ok (.iconst 0, 1) := by decide +kernel
theorem dL_bestShiftY_2 : decode cL_bestShiftY 2 = .ok (.aload_n 0, 1) := by decide +kernel
theorem dL_bestShiftY_3 : decode cL_bestShiftY 3 = .ok (.iload_n 1, 1) := by decide +kernel
theorem dL_bestShiftY_4 : decode cL_bestShiftY 4 = .ok (.iload_n 2, 1) := by decide +kernel
theorem dL_bestShiftY_5 : decode cL_bestShiftY 5 = .ok (.invokevirtual 64, 3) := by decide +kernel
theorem dL_bestShiftY_8 : decode cL_bestShiftY 8 = .ok (.i2l, 1) := by decide +kernel
theorem dL_bestShiftY_9 : decode cL_bestShiftY 9 = .ok (.lastore, 1) := by decide +kernel
theorem dL_bestShiftY_10 : decode cL_bestShiftY 10 = .ok (.goto 7, 3) := by decide +kernel
theorem dL_bestShiftY_13 : decode cL_bestShiftY 13 = .ok (.astore 4, 2) := by decide +kernel
theorem dL_bestShiftY_15 : decode cL_bestShiftY 15 = .ok (.iconst 1, 1) := by decide +kernel
theorem dL_bestShiftY_16 : decode cL_bestShiftY 16 = .ok (.ireturn, 1) := by decide +kernel
theorem dL_bestShiftY_17 : decode cL_bestShiftY 17 = .ok (.iconst 0, 1) := by decide +kernel
theorem dL_bestShiftY_18 : decode cL_bestShiftY 18 = .ok (.ireturn, 1) := by decide +kernel
theorem dL_addSheet_0 : decode cL_addSheet 0 = .ok (.aload_n 1, 1) := by decide +kernel
theorem dL_addSheet_1 : decode cL_addSheet 1 = .ok (.iconst 0, 1) := by decide +kernel
theorem dL_addSheet_2 : decode cL_addSheet 2 = .ok (.aload_n 0, 1) := by decide +kernel
theorem dL_addSheet_3 : decode cL_addSheet 3 = .ok (.invokevirtual 67, 3) := by decide +kernel
theorem dL_addSheet_6 : decode cL_addSheet 6 = .ok (.i2l, 1) := by decide +kernel
theorem dL_addSheet_7 : decode cL_addSheet 7 = .ok (.lastore, 1) := by decide +kernel
theorem dL_addSheet_8 : decode cL_addSheet 8 = .ok (.goto 6, 3) := by decide +kernel
theorem dL_addSheet_11 : decode cL_addSheet 11 = .ok (.astore_n 2, 1) := by decide +kernel
theorem dL_addSheet_12 : decode cL_addSheet 12 = .ok (.iconst 1, 1) := by decide +kernel
theorem dL_addSheet_13 : decode cL_addSheet 13 = .ok (.ireturn, 1) := by decide +kernel
theorem dL_addSheet_14 : decode cL_addSheet 14 = .ok (.iconst 0, 1) := by decide +kernel
theorem dL_addSheet_15 : decode cL_addSheet 15 = .ok (.ireturn, 1) := by decide +kernel
theorem dL_print_0 : decode cL_print 0 = .ok (.aload_n 3, 1) := by decide +kernel
theorem dL_print_1 : decode cL_print 1 = .ok (.iconst 0, 1) := by decide +kernel
theorem dL_print_2 : decode cL_print 2 = .ok (.aload_n 0, 1) := by decide +kernel
theorem dL_print_3 : decode cL_print 3 = .ok (.iload_n 1, 1) := by decide +kernel
theorem dL_print_4 : decode cL_print 4 = .ok (.iload_n 2, 1) := by decide +kernel
theorem dL_print_5 : decode cL_print 5 = .ok (.invokevirtual 71, 3) := by decide +kernel
theorem dL_print_8 : decode cL_print 8 = .ok (.i2l, 1) := by decide +kernel
theorem dL_print_9 : decode cL_print 9 = .ok (.lastore, 1) := by decide +kernel
theorem dL_print_10 : decode cL_print 10 = .ok (.goto 11, 3) := by decide +kernel
theorem dL_print_13 : decode cL_print 13 = .ok (.astore 4, 2) := by decide +kernel
theorem dL_print_15 : decode cL_print 15 = .ok (.iconst 1, 1) := by decide +kernel
theorem dL_print_16 : decode cL_print 16 = .ok (.ireturn, 1) := by decide +kernel
theorem dL_print_17 : decode cL_print 17 = .ok (.astore 4, 2) := by decide +kernel
theorem dL_print_19 : decode cL_print 19 = .ok (.iconst 2, 1) := by decide +kernel
theorem dL_print_20 : decode cL_print 20 = .ok (.ireturn, 1) := by decide +kernel
theorem dL_print_21 : decode cL_print 21 = .ok (.iconst 0, 1) := by decide +kernel
theorem dL_print_22 : decode cL_print 22 = .ok (.ireturn, 1) := by decide +kernel
theorem dL_wouldSmear_0 : decode cL_wouldSmear 0 = .ok (.aload_n 2, 1) := by decide +kernel
theorem dL_wouldSmear_1 : decode cL_wouldSmear 1 = .ok (.iconst 0, 1) := by decide +kernel
theorem dL_wouldSmear_2 : decode cL_wouldSmear 2 = .ok (.aload_n 0, 1) := by decide +kernel
theorem dL_wouldSmear_3 : decode cL_wouldSmear 3 = .ok (.iload_n 1, 1) := by decide +kernel
theorem dL_wouldSmear_4 : decode cL_wouldSmear 4 = .ok (.invokevirtual 76, 3) := by decide +kernel
theorem dL_wouldSmear_7 : decode cL_wouldSmear 7 = .ok (.ifCond .eq 7, 3) := by decide +kernel
theorem dL_wouldSmear_10 : decode cL_wouldSmear 10 = .ok (.lconst 1, 1) := by decide +kernel
theorem dL_wouldSmear_11 : decode cL_wouldSmear 11 = .ok (.goto 4, 3) := by decide +kernel
theorem dL_wouldSmear_14 : decode cL_wouldSmear 14 = .ok (.lconst 0, 1) := by decide +kernel
theorem dL_wouldSmear_15 : decode cL_wouldSmear 15 = .ok (.lastore, 1) := by decide +kernel
theorem dL_wouldSmear_16 : decode cL_wouldSmear 16 = .ok (.goto 6, 3) := by decide +kernel
theorem dL_wouldSmear_19 : decode cL_wouldSmear 19 = .ok (.astore_n 3, 1) := by decide +kernel
theorem dL_wouldSmear_20 : decode cL_wouldSmear 20 = .ok (.iconst 1, 1) := by decide +kernel
theorem dL_wouldSmear_21 : decode cL_wouldSmear 21 = .ok (.ireturn, 1) := by decide +kernel
theorem dL_wouldSmear_22 : decode cL_wouldSmear 22 = .ok (.iconst 0, 1) := by decide +kernel
theorem dL_wouldSmear_23 : decode cL_wouldSmear 23 = .ok (.ireturn, 1) := by decide +kernel
theorem dL_colour_0 : decode cL_colour 0 = .ok (.aload 4, 2) := by decide +kernel
theorem dL_colour_2 : decode cL_colour 2 = .ok (.iconst 0, 1) := by decide +kernel
theorem dL_colour_3 : decode cL_colour 3 = .ok (.aload_n 0, 1) := by decide +kernel
theorem dL_colour_4 : decode cL_colour 4 = .ok (.iload_n 1, 1) := by decide +kernel
theorem dL_colour_5 : decode cL_colour 5 = .ok (.iload_n 2, 1) := by decide +kernel
theorem dL_colour_6 : decode cL_colour 6 = .ok (.iload_n 3, 1) := by decide +kernel
theorem dL_colour_7 : decode cL_colour 7 = .ok (.invokevirtual 80, 3) := by decide +kernel
theorem dL_colour_10 : decode cL_colour 10 = .ok (.i2l, 1) := by decide +kernel
theorem dL_colour_11 : decode cL_colour 11 = .ok (.lastore, 1) := by decide +kernel
theorem dL_colour_12 : decode cL_colour 12 = .ok (.goto 11, 3) := by decide +kernel
theorem dL_colour_15 : decode cL_colour 15 = .ok (.astore 5, 2) := by decide +kernel
theorem dL_colour_17 : decode cL_colour 17 = .ok (.iconst 1, 1) := by decide +kernel
theorem dL_colour_18 : decode cL_colour 18 = .ok (.ireturn, 1) := by decide +kernel
theorem dL_colour_19 : decode cL_colour 19 = .ok (.astore 5, 2) := by decide +kernel
theorem dL_colour_21 : decode cL_colour 21 = .ok (.iconst 2, 1) := by decide +kernel
theorem dL_colour_22 : decode cL_colour 22 = .ok (.ireturn, 1) := by decide +kernel
theorem dL_colour_23 : decode cL_colour 23 = .ok (.iconst 0, 1) := by decide +kernel
theorem dL_colour_24 : decode cL_colour 24 = .ok (.ireturn, 1) := by decide +kernel
theorem dL_intended_0 : decode cL_intended 0 = .ok (.aload 4, 2) := by decide +kernel
theorem dL_intended_2 : decode cL_intended 2 = .ok (.iconst 0, 1) := by decide +kernel
theorem dL_intended_3 : decode cL_intended 3 = .ok (.aload_n 0, 1) := by decide +kernel
theorem dL_intended_4 : decode cL_intended 4 = .ok (.iload_n 1, 1) := by decide +kernel
theorem dL_intended_5 : decode cL_intended 5 = .ok (.iload_n 2, 1) := by decide +kernel
theorem dL_intended_6 : decode cL_intended 6 = .ok (.iload_n 3, 1) := by decide +kernel
theorem dL_intended_7 : decode cL_intended 7 = .ok (.invokevirtual 83, 3) := by decide +kernel
theorem dL_intended_10 : decode cL_intended 10 = .ok (.i2l, 1) := by decide +kernel
theorem dL_intended_11 : decode cL_intended 11 = .ok (.lastore, 1) := by decide +kernel
theorem dL_intended_12 : decode cL_intended 12 = .ok (.goto 11, 3) := by decide +kernel
theorem dL_intended_15 : decode cL_intended 15 = .ok (.astore 5, 2) := by decide +kernel
theorem dL_intended_17 : decode cL_intended 17 = .ok (.iconst 1, 1) := by decide +kernel
theorem dL_intended_18 : decode cL_intended 18 = .ok (.ireturn, 1) := by decide +kernel
theorem dL_intended_19 : decode cL_intended 19 = .ok (.astore 5, 2) := by decide +kernel
theorem dL_intended_21 : decode cL_intended 21 = .ok (.iconst 2, 1) := by decide +kernel
theorem dL_intended_22 : decode cL_intended 22 = .ok (.ireturn, 1) := by decide +kernel
theorem dL_intended_23 : decode cL_intended 23 = .ok (.iconst 0, 1) := by decide +kernel
theorem dL_intended_24 : decode cL_intended 24 = .ok (.ireturn, 1) := by decide +kernel
theorem dL_placesOf_0 : decode cL_placesOf 0 = .ok (.aload_n 3, 1) := by decide +kernel
theorem dL_placesOf_1 : decode cL_placesOf 1 = .ok (.iconst 0, 1) := by decide +kernel
theorem dL_placesOf_2 : decode cL_placesOf 2 = .ok (.aload_n 0, 1) := by decide +kernel
theorem dL_placesOf_3 : decode cL_placesOf 3 = .ok (.iload_n 1, 1) := by decide +kernel
theorem dL_placesOf_4 : decode cL_placesOf 4 = .ok (.iload_n 2, 1) := by decide +kernel
theorem dL_placesOf_5 : decode cL_placesOf 5 = .ok (.invokevirtual 86, 3) := by decide +kernel
theorem dL_placesOf_8 : decode cL_placesOf 8 = .ok (.i2l, 1) := by decide +kernel
theorem dL_placesOf_9 : decode cL_placesOf 9 = .ok (.lastore, 1) := by decide +kernel
theorem dL_placesOf_10 : decode cL_placesOf 10 = .ok (.goto 11, 3) := by decide +kernel
theorem dL_placesOf_13 : decode cL_placesOf 13 = .ok (.astore 4, 2) := by decide +kernel
theorem dL_placesOf_15 : decode cL_placesOf 15 = .ok (.iconst 1, 1) := by decide +kernel
theorem dL_placesOf_16 : decode cL_placesOf 16 = .ok (.ireturn, 1) := by decide +kernel
theorem dL_placesOf_17 : decode cL_placesOf 17 = .ok (.astore 4, 2) := by decide +kernel
theorem dL_placesOf_19 : decode cL_placesOf 19 = .ok (.iconst 2, 1) := by decide +kernel
theorem dL_placesOf_20 : decode cL_placesOf 20 = .ok (.ireturn, 1) := by decide +kernel
theorem dL_placesOf_21 : decode cL_placesOf 21 = .ok (.iconst 0, 1) := by decide +kernel
theorem dL_placesOf_22 : decode cL_placesOf 22 = .ok (.ireturn, 1) := by decide +kernel
theorem dL_wetness_0 : decode cL_wetness 0 = .ok (.aload_n 2, 1) := by decide +kernel
theorem dL_wetness_1 : decode cL_wetness 1 = .ok (.iconst 0, 1) := by decide +kernel
theorem dL_wetness_2 : decode cL_wetness 2 = .ok (.aload_n 0, 1) := by decide +kernel
theorem dL_wetness_3 : decode cL_wetness 3 = .ok (.iload_n 1, 1) := by decide +kernel
theorem dL_wetness_4 : decode cL_wetness 4 = .ok (.invokevirtual 89, 3) := by decide +kernel
theorem dL_wetness_7 : decode cL_wetness 7 = .ok (.i2l, 1) := by decide +kernel
theorem dL_wetness_8 : decode cL_wetness 8 = .ok (.lastore, 1) := by decide +kernel
theorem dL_wetness_9 : decode cL_wetness 9 = .ok (.goto 6, 3) := by decide +kernel
theorem dL_wetness_12 : decode cL_wetness 12 = .ok (.astore_n 3, 1) := by decide +kernel
theorem dL_wetness_13 : decode cL_wetness 13 = .ok (.iconst 1, 1) := by decide +kernel
theorem dL_wetness_14 : decode cL_wetness 14 = .ok (.ireturn, 1) := by decide +kernel
theorem dL_wetness_15 : decode cL_wetness 15 = .ok (.iconst 0, 1) := by decide +kernel
theorem dL_wetness_16 : decode cL_wetness 16 = .ok (.ireturn, 1) := by decide +kernel
theorem dL_smears_0 : decode cL_smears 0 = .ok (.aload_n 2, 1) := by decide +kernel
theorem dL_smears_1 : decode cL_smears 1 = .ok (.iconst 0, 1) := by decide +kernel
theorem dL_smears_2 : decode cL_smears 2 = .ok (.aload_n 0, 1) := by decide +kernel
theorem dL_smears_3 : decode cL_smears 3 = .ok (.iload_n 1, 1) := by decide +kernel
theorem dL_smears_4 : decode cL_smears 4 = .ok (.invokevirtual 92, 3) := by decide +kernel
theorem dL_smears_7 : decode cL_smears 7 = .ok (.i2l, 1) := by decide +kernel
theorem dL_smears_8 : decode cL_smears 8 = .ok (.lastore, 1) := by decide +kernel
theorem dL_smears_9 : decode cL_smears 9 = .ok (.goto 6, 3) := by decide +kernel
theorem dL_smears_12 : decode cL_smears 12 = .ok (.astore_n 3, 1) := by decide +kernel
theorem dL_smears_13 : decode cL_smears 13 = .ok (.iconst 1, 1) := by decide +kernel
theorem dL_smears_14 : decode cL_smears 14 = .ok (.ireturn, 1) := by decide +kernel
theorem dL_smears_15 : decode cL_smears 15 = .ok (.iconst 0, 1) := by decide +kernel
theorem dL_smears_16 : decode cL_smears 16 = .ok (.ireturn, 1) := by decide +kernel
theorem dL_misprints_0 : decode cL_misprints 0 = .ok (.aload_n 2, 1) := by decide +kernel
theorem dL_misprints_1 : decode cL_misprints 1 = .ok (.iconst 0, 1) := by decide +kernel
theorem dL_misprints_2 : decode cL_misprints 2 = .ok (.aload_n 0, 1) := by decide +kernel
theorem dL_misprints_3 : decode cL_misprints 3 = .ok (.iload_n 1, 1) := by decide +kernel
theorem dL_misprints_4 : decode cL_misprints 4 = .ok (.invokevirtual 95, 3) := by decide +kernel
theorem dL_misprints_7 : decode cL_misprints 7 = .ok (.i2l, 1) := by decide +kernel
theorem dL_misprints_8 : decode cL_misprints 8 = .ok (.lastore, 1) := by decide +kernel
theorem dL_misprints_9 : decode cL_misprints 9 = .ok (.goto 6, 3) := by decide +kernel
theorem dL_misprints_12 : decode cL_misprints 12 = .ok (.astore_n 3, 1) := by decide +kernel
theorem dL_misprints_13 : decode cL_misprints 13 = .ok (.iconst 1, 1) := by decide +kernel
theorem dL_misprints_14 : decode cL_misprints 14 = .ok (.ireturn, 1) := by decide +kernel
theorem dL_misprints_15 : decode cL_misprints 15 = .ok (.iconst 0, 1) := by decide +kernel
theorem dL_misprints_16 : decode cL_misprints 16 = .ok (.ireturn, 1) := by decide +kernel
theorem dL_misprintsBySets_0 : decode cL_misprintsBySets 0 = .ok (.aload_n 2, 1) := by decide +kernel
theorem dL_misprintsBySets_1 : decode cL_misprintsBySets 1 = .ok (.iconst 0, 1) := by decide +kernel
theorem dL_misprintsBySets_2 : decode cL_misprintsBySets 2 = .ok (.aload_n 0, 1) := by decide +kernel
theorem dL_misprintsBySets_3 : decode cL_misprintsBySets 3 = .ok (.iload_n 1, 1) := by decide +kernel
theorem dL_misprintsBySets_4 : decode cL_misprintsBySets 4 = .ok (.invokevirtual 98, 3) := by decide +kernel
theorem dL_misprintsBySets_7 : decode cL_misprintsBySets 7 = .ok (.i2l, 1) := by decide +kernel
theorem dL_misprintsBySets_8 : decode cL_misprintsBySets 8 = .ok (.lastore, 1) := by decide +kernel
theorem dL_misprintsBySets_9 : decode cL_misprintsBySets 9 = .ok (.goto 6, 3) := by decide +kernel
theorem dL_misprintsBySets_12 : decode cL_misprintsBySets 12 = .ok (.astore_n 3, 1) := by decide +kernel
theorem dL_misprintsBySets_13 : decode cL_misprintsBySets 13 = .ok (.iconst 1, 1) := by decide +kernel
theorem dL_misprintsBySets_14 : decode cL_misprintsBySets 14 = .ok (.ireturn, 1) := by decide +kernel
theorem dL_misprintsBySets_15 : decode cL_misprintsBySets 15 = .ok (.iconst 0, 1) := by decide +kernel
theorem dL_misprintsBySets_16 : decode cL_misprintsBySets 16 = .ok (.ireturn, 1) := by decide +kernel
theorem dL_sheetByMisprints_0 : decode cL_sheetByMisprints 0 = .ok (.aload_n 2, 1) := by decide +kernel
theorem dL_sheetByMisprints_1 : decode cL_sheetByMisprints 1 = .ok (.iconst 0, 1) := by decide +kernel
theorem dL_sheetByMisprints_2 : decode cL_sheetByMisprints 2 = .ok (.aload_n 0, 1) := by decide +kernel
theorem dL_sheetByMisprints_3 : decode cL_sheetByMisprints 3 = .ok (.iload_n 1, 1) := by decide +kernel
theorem dL_sheetByMisprints_4 : decode cL_sheetByMisprints 4 = .ok (.invokevirtual 101, 3) := by decide +kernel
theorem dL_sheetByMisprints_7 : decode cL_sheetByMisprints 7 = .ok (.i2l, 1) := by decide +kernel
theorem dL_sheetByMisprints_8 : decode cL_sheetByMisprints 8 = .ok (.lastore, 1) := by decide +kernel
theorem dL_sheetByMisprints_9 : decode cL_sheetByMisprints 9 = .ok (.goto 6, 3) := by decide +kernel
theorem dL_sheetByMisprints_12 : decode cL_sheetByMisprints 12 = .ok (.astore_n 3, 1) := by decide +kernel
theorem dL_sheetByMisprints_13 : decode cL_sheetByMisprints 13 = .ok (.iconst 1, 1) := by decide +kernel
theorem dL_sheetByMisprints_14 : decode cL_sheetByMisprints 14 = .ok (.ireturn, 1) := by decide +kernel
theorem dL_sheetByMisprints_15 : decode cL_sheetByMisprints 15 = .ok (.iconst 0, 1) := by decide +kernel
theorem dL_sheetByMisprints_16 : decode cL_sheetByMisprints 16 = .ok (.ireturn, 1) := by decide +kernel
theorem dL_putInRack_0 : decode cL_putInRack 0 = .ok (.aload_n 2, 1) := by decide +kernel
theorem dL_putInRack_1 : decode cL_putInRack 1 = .ok (.iconst 0, 1) := by decide +kernel
theorem dL_putInRack_2 : decode cL_putInRack 2 = .ok (.aload_n 0, 1) := by decide +kernel
theorem dL_putInRack_3 : decode cL_putInRack 3 = .ok (.iload_n 1, 1) := by decide +kernel
theorem dL_putInRack_4 : decode cL_putInRack 4 = .ok (.invokevirtual 104, 3) := by decide +kernel
theorem dL_putInRack_7 : decode cL_putInRack 7 = .ok (.i2l, 1) := by decide +kernel
theorem dL_putInRack_8 : decode cL_putInRack 8 = .ok (.lastore, 1) := by decide +kernel
theorem dL_putInRack_9 : decode cL_putInRack 9 = .ok (.goto 12, 3) := by decide +kernel
theorem dL_putInRack_12 : decode cL_putInRack 12 = .ok (.astore_n 3, 1) := by decide +kernel
theorem dL_putInRack_13 : decode cL_putInRack 13 = .ok (.iconst 1, 1) := by decide +kernel
theorem dL_putInRack_14 : decode cL_putInRack 14 = .ok (.ireturn, 1) := by decide +kernel
theorem dL_putInRack_15 : decode cL_putInRack 15 = .ok (.astore_n 3, 1) := by decide +kernel
theorem dL_putInRack_16 : decode cL_putInRack 16 = .ok (.iconst 2, 1) := by decide +kernel
theorem dL_putInRack_17 : decode cL_putInRack 17 = .ok (.ireturn, 1) := by decide +kernel
theorem dL_putInRack_18 : decode cL_putInRack 18 = .ok (.astore_n 3, 1) := by decide +kernel
theorem dL_putInRack_19 : decode cL_putInRack 19 = .ok (.iconst 3, 1) := by decide +kernel
theorem dL_putInRack_20 : decode cL_putInRack 20 = .ok (.ireturn, 1) := by decide +kernel
theorem dL_putInRack_21 : decode cL_putInRack 21 = .ok (.iconst 0, 1) := by decide +kernel
theorem dL_putInRack_22 : decode cL_putInRack 22 = .ok (.ireturn, 1) := by decide +kernel
theorem dL_takeOut_0 : decode cL_takeOut 0 = .ok (.aload_n 2, 1) := by decide +kernel
theorem dL_takeOut_1 : decode cL_takeOut 1 = .ok (.iconst 0, 1) := by decide +kernel
theorem dL_takeOut_2 : decode cL_takeOut 2 = .ok (.aload_n 0, 1) := by decide +kernel
theorem dL_takeOut_3 : decode cL_takeOut 3 = .ok (.iload_n 1, 1) := by decide +kernel
theorem dL_takeOut_4 : decode cL_takeOut 4 = .ok (.invokevirtual 107, 3) := by decide +kernel
theorem dL_takeOut_7 : decode cL_takeOut 7 = .ok (.i2l, 1) := by decide +kernel
theorem dL_takeOut_8 : decode cL_takeOut 8 = .ok (.lastore, 1) := by decide +kernel
theorem dL_takeOut_9 : decode cL_takeOut 9 = .ok (.goto 9, 3) := by decide +kernel
theorem dL_takeOut_12 : decode cL_takeOut 12 = .ok (.astore_n 3, 1) := by decide +kernel
theorem dL_takeOut_13 : decode cL_takeOut 13 = .ok (.iconst 1, 1) := by decide +kernel
theorem dL_takeOut_14 : decode cL_takeOut 14 = .ok (.ireturn, 1) := by decide +kernel
theorem dL_takeOut_15 : decode cL_takeOut 15 = .ok (.astore_n 3, 1) := by decide +kernel
theorem dL_takeOut_16 : decode cL_takeOut 16 = .ok (.iconst 2, 1) := by decide +kernel
theorem dL_takeOut_17 : decode cL_takeOut 17 = .ok (.ireturn, 1) := by decide +kernel
theorem dL_takeOut_18 : decode cL_takeOut 18 = .ok (.iconst 0, 1) := by decide +kernel
theorem dL_takeOut_19 : decode cL_takeOut 19 = .ok (.ireturn, 1) := by decide +kernel
theorem dL_rackPlace_0 : decode cL_rackPlace 0 = .ok (.aload_n 2, 1) := by decide +kernel
theorem dL_rackPlace_1 : decode cL_rackPlace 1 = .ok (.iconst 0, 1) := by decide +kernel
theorem dL_rackPlace_2 : decode cL_rackPlace 2 = .ok (.aload_n 0, 1) := by decide +kernel
theorem dL_rackPlace_3 : decode cL_rackPlace 3 = .ok (.iload_n 1, 1) := by decide +kernel
theorem dL_rackPlace_4 : decode cL_rackPlace 4 = .ok (.invokevirtual 110, 3) := by decide +kernel
theorem dL_rackPlace_7 : decode cL_rackPlace 7 = .ok (.i2l, 1) := by decide +kernel
theorem dL_rackPlace_8 : decode cL_rackPlace 8 = .ok (.lastore, 1) := by decide +kernel
theorem dL_rackPlace_9 : decode cL_rackPlace 9 = .ok (.goto 9, 3) := by decide +kernel
theorem dL_rackPlace_12 : decode cL_rackPlace 12 = .ok (.astore_n 3, 1) := by decide +kernel
theorem dL_rackPlace_13 : decode cL_rackPlace 13 = .ok (.iconst 1, 1) := by decide +kernel
theorem dL_rackPlace_14 : decode cL_rackPlace 14 = .ok (.ireturn, 1) := by decide +kernel
theorem dL_rackPlace_15 : decode cL_rackPlace 15 = .ok (.astore_n 3, 1) := by decide +kernel
theorem dL_rackPlace_16 : decode cL_rackPlace 16 = .ok (.iconst 2, 1) := by decide +kernel
theorem dL_rackPlace_17 : decode cL_rackPlace 17 = .ok (.ireturn, 1) := by decide +kernel
theorem dL_rackPlace_18 : decode cL_rackPlace 18 = .ok (.iconst 0, 1) := by decide +kernel
theorem dL_rackPlace_19 : decode cL_rackPlace 19 = .ok (.ireturn, 1) := by decide +kernel
theorem dL_sheetInRack_0 : decode cL_sheetInRack 0 = .ok (.aload_n 2, 1) := by decide +kernel
theorem dL_sheetInRack_1 : decode cL_sheetInRack 1 = .ok (.iconst 0, 1) := by decide +kernel
theorem dL_sheetInRack_2 : decode cL_sheetInRack 2 = .ok (.aload_n 0, 1) := by decide +kernel
theorem dL_sheetInRack_3 : decode cL_sheetInRack 3 = .ok (.iload_n 1, 1) := by decide +kernel
theorem dL_sheetInRack_4 : decode cL_sheetInRack 4 = .ok (.invokevirtual 113, 3) := by decide +kernel
theorem dL_sheetInRack_7 : decode cL_sheetInRack 7 = .ok (.i2l, 1) := by decide +kernel
theorem dL_sheetInRack_8 : decode cL_sheetInRack 8 = .ok (.lastore, 1) := by decide +kernel
theorem dL_sheetInRack_9 : decode cL_sheetInRack 9 = .ok (.goto 9, 3) := by decide +kernel
theorem dL_sheetInRack_12 : decode cL_sheetInRack 12 = .ok (.astore_n 3, 1) := by decide +kernel
theorem dL_sheetInRack_13 : decode cL_sheetInRack 13 = .ok (.iconst 1, 1) := by decide +kernel
theorem dL_sheetInRack_14 : decode cL_sheetInRack 14 = .ok (.ireturn, 1) := by decide +kernel
theorem dL_sheetInRack_15 : decode cL_sheetInRack 15 = .ok (.astore_n 3, 1) := by decide +kernel
theorem dL_sheetInRack_16 : decode cL_sheetInRack 16 = .ok (.iconst 2, 1) := by decide +kernel
theorem dL_sheetInRack_17 : decode cL_sheetInRack 17 = .ok (.ireturn, 1) := by decide +kernel
theorem dL_sheetInRack_18 : decode cL_sheetInRack 18 = .ok (.iconst 0, 1) := by decide +kernel
theorem dL_sheetInRack_19 : decode cL_sheetInRack 19 = .ok (.ireturn, 1) := by decide +kernel
theorem dL_addInk_0 : decode cL_addInk 0 = .ok (.aload_n 3, 1) := by decide +kernel
theorem dL_addInk_1 : decode cL_addInk 1 = .ok (.iconst 0, 1) := by decide +kernel
theorem dL_addInk_2 : decode cL_addInk 2 = .ok (.aload_n 0, 1) := by decide +kernel
theorem dL_addInk_3 : decode cL_addInk 3 = .ok (.iload_n 1, 1) := by decide +kernel
theorem dL_addInk_4 : decode cL_addInk 4 = .ok (.iload_n 2, 1) := by decide +kernel
theorem dL_addInk_5 : decode cL_addInk 5 = .ok (.invokevirtual 116, 3) := by decide +kernel
theorem dL_addInk_8 : decode cL_addInk 8 = .ok (.i2l, 1) := by decide +kernel
theorem dL_addInk_9 : decode cL_addInk 9 = .ok (.lastore, 1) := by decide +kernel
theorem dL_addInk_10 : decode cL_addInk 10 = .ok (.goto 11, 3) := by decide +kernel
theorem dL_addInk_13 : decode cL_addInk 13 = .ok (.astore 4, 2) := by decide +kernel
theorem dL_addInk_15 : decode cL_addInk 15 = .ok (.iconst 1, 1) := by decide +kernel
theorem dL_addInk_16 : decode cL_addInk 16 = .ok (.ireturn, 1) := by decide +kernel
theorem dL_addInk_17 : decode cL_addInk 17 = .ok (.astore 4, 2) := by decide +kernel
theorem dL_addInk_19 : decode cL_addInk 19 = .ok (.iconst 2, 1) := by decide +kernel
theorem dL_addInk_20 : decode cL_addInk 20 = .ok (.ireturn, 1) := by decide +kernel
theorem dL_addInk_21 : decode cL_addInk 21 = .ok (.iconst 0, 1) := by decide +kernel
theorem dL_addInk_22 : decode cL_addInk 22 = .ok (.ireturn, 1) := by decide +kernel
theorem dL_drops_0 : decode cL_drops 0 = .ok (.aload_n 2, 1) := by decide +kernel
theorem dL_drops_1 : decode cL_drops 1 = .ok (.iconst 0, 1) := by decide +kernel
theorem dL_drops_2 : decode cL_drops 2 = .ok (.aload_n 0, 1) := by decide +kernel
theorem dL_drops_3 : decode cL_drops 3 = .ok (.iload_n 1, 1) := by decide +kernel
theorem dL_drops_4 : decode cL_drops 4 = .ok (.invokevirtual 119, 3) := by decide +kernel
theorem dL_drops_7 : decode cL_drops 7 = .ok (.i2l, 1) := by decide +kernel
theorem dL_drops_8 : decode cL_drops 8 = .ok (.lastore, 1) := by decide +kernel
theorem dL_drops_9 : decode cL_drops 9 = .ok (.goto 6, 3) := by decide +kernel
theorem dL_drops_12 : decode cL_drops 12 = .ok (.astore_n 3, 1) := by decide +kernel
theorem dL_drops_13 : decode cL_drops 13 = .ok (.iconst 1, 1) := by decide +kernel
theorem dL_drops_14 : decode cL_drops 14 = .ok (.ireturn, 1) := by decide +kernel
theorem dL_drops_15 : decode cL_drops 15 = .ok (.iconst 0, 1) := by decide +kernel
theorem dL_drops_16 : decode cL_drops 16 = .ok (.ireturn, 1) := by decide +kernel
theorem dL_passHours_0 : decode cL_passHours 0 = .ok (.aload_n 2, 1) := by decide +kernel
theorem dL_passHours_1 : decode cL_passHours 1 = .ok (.iconst 0, 1) := by decide +kernel
theorem dL_passHours_2 : decode cL_passHours 2 = .ok (.aload_n 0, 1) := by decide +kernel
theorem dL_passHours_3 : decode cL_passHours 3 = .ok (.iload_n 1, 1) := by decide +kernel
theorem dL_passHours_4 : decode cL_passHours 4 = .ok (.invokevirtual 122, 3) := by decide +kernel
theorem dL_passHours_7 : decode cL_passHours 7 = .ok (.i2l, 1) := by decide +kernel
theorem dL_passHours_8 : decode cL_passHours 8 = .ok (.lastore, 1) := by decide +kernel
theorem dL_passHours_9 : decode cL_passHours 9 = .ok (.goto 6, 3) := by decide +kernel
theorem dL_passHours_12 : decode cL_passHours 12 = .ok (.astore_n 3, 1) := by decide +kernel
theorem dL_passHours_13 : decode cL_passHours 13 = .ok (.iconst 1, 1) := by decide +kernel
theorem dL_passHours_14 : decode cL_passHours 14 = .ok (.ireturn, 1) := by decide +kernel
theorem dL_passHours_15 : decode cL_passHours 15 = .ok (.iconst 0, 1) := by decide +kernel
theorem dL_passHours_16 : decode cL_passHours 16 = .ok (.ireturn, 1) := by decide +kernel
theorem dL_hoursUntilDry_0 : decode cL_hoursUntilDry 0 = .ok (.aload_n 2, 1) := by decide +kernel
theorem dL_hoursUntilDry_1 : decode cL_hoursUntilDry 1 = .ok (.iconst 0, 1) := by decide +kernel
theorem dL_hoursUntilDry_2 : decode cL_hoursUntilDry 2 = .ok (.aload_n 0, 1) := by decide +kernel
theorem dL_hoursUntilDry_3 : decode cL_hoursUntilDry 3 = .ok (.iload_n 1, 1) := by decide +kernel
theorem dL_hoursUntilDry_4 : decode cL_hoursUntilDry 4 = .ok (.invokevirtual 125, 3) := by decide +kernel
theorem dL_hoursUntilDry_7 : decode cL_hoursUntilDry 7 = .ok (.i2l, 1) := by decide +kernel
theorem dL_hoursUntilDry_8 : decode cL_hoursUntilDry 8 = .ok (.lastore, 1) := by decide +kernel
theorem dL_hoursUntilDry_9 : decode cL_hoursUntilDry 9 = .ok (.goto 6, 3) := by decide +kernel
theorem dL_hoursUntilDry_12 : decode cL_hoursUntilDry 12 = .ok (.astore_n 3, 1) := by decide +kernel
theorem dL_hoursUntilDry_13 : decode cL_hoursUntilDry 13 = .ok (.iconst 1, 1) := by decide +kernel
theorem dL_hoursUntilDry_14 : decode cL_hoursUntilDry 14 = .ok (.ireturn, 1) := by decide +kernel
theorem dL_hoursUntilDry_15 : decode cL_hoursUntilDry 15 = .ok (.iconst 0, 1) := by decide +kernel
theorem dL_hoursUntilDry_16 : decode cL_hoursUntilDry 16 = .ok (.ireturn, 1) := by decide +kernel
theorem dL_hoursUntilDryAtOnce_0 : decode cL_hoursUntilDryAtOnce 0 = .ok (.aload_n 2, 1) := by decide +kernel
theorem dL_hoursUntilDryAtOnce_1 : decode cL_hoursUntilDryAtOnce 1 = .ok (.iconst 0, 1) := by decide +kernel
theorem dL_hoursUntilDryAtOnce_2 : decode cL_hoursUntilDryAtOnce 2 = .ok (.aload_n 0, 1) := by decide +kernel
theorem dL_hoursUntilDryAtOnce_3 : decode cL_hoursUntilDryAtOnce 3 = .ok (.iload_n 1, 1) := by decide +kernel
theorem dL_hoursUntilDryAtOnce_4 : decode cL_hoursUntilDryAtOnce 4 = .ok (.invokevirtual 128, 3) := by decide +kernel
theorem dL_hoursUntilDryAtOnce_7 : decode cL_hoursUntilDryAtOnce 7 = .ok (.i2l, 1) := by decide +kernel
theorem dL_hoursUntilDryAtOnce_8 : decode cL_hoursUntilDryAtOnce 8 = .ok (.lastore, 1) := by decide +kernel
theorem dL_hoursUntilDryAtOnce_9 : decode cL_hoursUntilDryAtOnce 9 = .ok (.goto 6, 3) := by decide +kernel
theorem dL_hoursUntilDryAtOnce_12 : decode cL_hoursUntilDryAtOnce 12 = .ok (.astore_n 3, 1) := by decide +kernel
theorem dL_hoursUntilDryAtOnce_13 : decode cL_hoursUntilDryAtOnce 13 = .ok (.iconst 1, 1) := by decide +kernel
theorem dL_hoursUntilDryAtOnce_14 : decode cL_hoursUntilDryAtOnce 14 = .ok (.ireturn, 1) := by decide +kernel
theorem dL_hoursUntilDryAtOnce_15 : decode cL_hoursUntilDryAtOnce 15 = .ok (.iconst 0, 1) := by decide +kernel
theorem dL_hoursUntilDryAtOnce_16 : decode cL_hoursUntilDryAtOnce 16 = .ok (.ireturn, 1) := by decide +kernel
theorem dL_refusalReason_0 : decode cL_refusalReason 0 = .ok (.aload_n 1, 1) := by decide +kernel
theorem dL_refusalReason_1 : decode cL_refusalReason 1 = .ok (.iconst 0, 1) := by decide +kernel
theorem dL_refusalReason_2 : decode cL_refusalReason 2 = .ok (.aload_n 0, 1) := by decide +kernel
theorem dL_refusalReason_3 : decode cL_refusalReason 3 = .ok (.invokevirtual 131, 3) := by decide +kernel
theorem dL_refusalReason_6 : decode cL_refusalReason 6 = .ok (.i2l, 1) := by decide +kernel
theorem dL_refusalReason_7 : decode cL_refusalReason 7 = .ok (.lastore, 1) := by decide +kernel
theorem dL_refusalReason_8 : decode cL_refusalReason 8 = .ok (.goto 6, 3) := by decide +kernel
theorem dL_refusalReason_11 : decode cL_refusalReason 11 = .ok (.astore_n 2, 1) := by decide +kernel
theorem dL_refusalReason_12 : decode cL_refusalReason 12 = .ok (.iconst 1, 1) := by decide +kernel
theorem dL_refusalReason_13 : decode cL_refusalReason 13 = .ok (.ireturn, 1) := by decide +kernel
theorem dL_refusalReason_14 : decode cL_refusalReason 14 = .ok (.iconst 0, 1) := by decide +kernel
theorem dL_refusalReason_15 : decode cL_refusalReason 15 = .ok (.ireturn, 1) := by decide +kernel
theorem dL_refusalDetail_0 : decode cL_refusalDetail 0 = .ok (.aload_n 1, 1) := by decide +kernel
theorem dL_refusalDetail_1 : decode cL_refusalDetail 1 = .ok (.iconst 0, 1) := by decide +kernel
theorem dL_refusalDetail_2 : decode cL_refusalDetail 2 = .ok (.aload_n 0, 1) := by decide +kernel
theorem dL_refusalDetail_3 : decode cL_refusalDetail 3 = .ok (.invokevirtual 134, 3) := by decide +kernel
theorem dL_refusalDetail_6 : decode cL_refusalDetail 6 = .ok (.i2l, 1) := by decide +kernel
theorem dL_refusalDetail_7 : decode cL_refusalDetail 7 = .ok (.lastore, 1) := by decide +kernel
theorem dL_refusalDetail_8 : decode cL_refusalDetail 8 = .ok (.goto 6, 3) := by decide +kernel
theorem dL_refusalDetail_11 : decode cL_refusalDetail 11 = .ok (.astore_n 2, 1) := by decide +kernel
theorem dL_refusalDetail_12 : decode cL_refusalDetail 12 = .ok (.iconst 1, 1) := by decide +kernel
theorem dL_refusalDetail_13 : decode cL_refusalDetail 13 = .ok (.ireturn, 1) := by decide +kernel
theorem dL_refusalDetail_14 : decode cL_refusalDetail 14 = .ok (.iconst 0, 1) := by decide +kernel
theorem dL_refusalDetail_15 : decode cL_refusalDetail 15 = .ok (.ireturn, 1) := by decide +kernel
theorem dL_meanWetness_0 : decode cL_meanWetness 0 = .ok (.aload_n 1, 1) := by decide +kernel
theorem dL_meanWetness_1 : decode cL_meanWetness 1 = .ok (.iconst 0, 1) := by decide +kernel
theorem dL_meanWetness_2 : decode cL_meanWetness 2 = .ok (.aload_n 0, 1) := by decide +kernel
theorem dL_meanWetness_3 : decode cL_meanWetness 3 = .ok (.invokevirtual 137, 3) := by decide +kernel
theorem dL_meanWetness_6 : decode cL_meanWetness 6 = .ok (.dastore, 1) := by decide +kernel
theorem dL_meanWetness_7 : decode cL_meanWetness 7 = .ok (.goto 6, 3) := by decide +kernel
theorem dL_meanWetness_10 : decode cL_meanWetness 10 = .ok (.astore_n 2, 1) := by decide +kernel
theorem dL_meanWetness_11 : decode cL_meanWetness 11 = .ok (.iconst 1, 1) := by decide +kernel
theorem dL_meanWetness_12 : decode cL_meanWetness 12 = .ok (.ireturn, 1) := by decide +kernel
theorem dL_meanWetness_13 : decode cL_meanWetness 13 = .ok (.iconst 0, 1) := by decide +kernel
theorem dL_meanWetness_14 : decode cL_meanWetness 14 = .ok (.ireturn, 1) := by decide +kernel
theorem dL_smearedFraction_0 : decode cL_smearedFraction 0 = .ok (.aload_n 1, 1) := by decide +kernel
theorem dL_smearedFraction_1 : decode cL_smearedFraction 1 = .ok (.iconst 0, 1) := by decide +kernel
theorem dL_smearedFraction_2 : decode cL_smearedFraction 2 = .ok (.aload_n 0, 1) := by decide +kernel
theorem dL_smearedFraction_3 : decode cL_smearedFraction 3 = .ok (.invokevirtual 143, 3) := by decide +kernel
theorem dL_smearedFraction_6 : decode cL_smearedFraction 6 = .ok (.f2d, 1) := by decide +kernel
theorem dL_smearedFraction_7 : decode cL_smearedFraction 7 = .ok (.dastore, 1) := by decide +kernel
theorem dL_smearedFraction_8 : decode cL_smearedFraction 8 = .ok (.goto 6, 3) := by decide +kernel
theorem dL_smearedFraction_11 : decode cL_smearedFraction 11 = .ok (.astore_n 2, 1) := by decide +kernel
theorem dL_smearedFraction_12 : decode cL_smearedFraction 12 = .ok (.iconst 1, 1) := by decide +kernel
theorem dL_smearedFraction_13 : decode cL_smearedFraction 13 = .ok (.ireturn, 1) := by decide +kernel
theorem dL_smearedFraction_14 : decode cL_smearedFraction 14 = .ok (.iconst 0, 1) := by decide +kernel
theorem dL_smearedFraction_15 : decode cL_smearedFraction 15 = .ok (.ireturn, 1) := by decide +kernel
theorem dL_writeRow_0 : decode cL_writeRow 0 = .ok (.aload_n 3, 1) := by decide +kernel
theorem dL_writeRow_1 : decode cL_writeRow 1 = .ok (.iconst 0, 1) := by decide +kernel
theorem dL_writeRow_2 : decode cL_writeRow 2 = .ok (.aload_n 0, 1) := by decide +kernel
theorem dL_writeRow_3 : decode cL_writeRow 3 = .ok (.iload_n 1, 1) := by decide +kernel
theorem dL_writeRow_4 : decode cL_writeRow 4 = .ok (.iload_n 2, 1) := by decide +kernel
theorem dL_writeRow_5 : decode cL_writeRow 5 = .ok (.invokevirtual 147, 3) := by decide +kernel
theorem dL_writeRow_8 : decode cL_writeRow 8 = .ok (.i2l, 1) := by decide +kernel
theorem dL_writeRow_9 : decode cL_writeRow 9 = .ok (.lastore, 1) := by decide +kernel
theorem dL_writeRow_10 : decode cL_writeRow 10 = .ok (.goto 11, 3) := by decide +kernel
theorem dL_writeRow_13 : decode cL_writeRow 13 = .ok (.astore 4, 2) := by decide +kernel
theorem dL_writeRow_15 : decode cL_writeRow 15 = .ok (.iconst 1, 1) := by decide +kernel
theorem dL_writeRow_16 : decode cL_writeRow 16 = .ok (.ireturn, 1) := by decide +kernel
theorem dL_writeRow_17 : decode cL_writeRow 17 = .ok (.astore 4, 2) := by decide +kernel
theorem dL_writeRow_19 : decode cL_writeRow 19 = .ok (.iconst 2, 1) := by decide +kernel
theorem dL_writeRow_20 : decode cL_writeRow 20 = .ok (.ireturn, 1) := by decide +kernel
theorem dL_writeRow_21 : decode cL_writeRow 21 = .ok (.iconst 0, 1) := by decide +kernel
theorem dL_writeRow_22 : decode cL_writeRow 22 = .ok (.ireturn, 1) := by decide +kernel
theorem dL_outputCharacter_0 : decode cL_outputCharacter 0 = .ok (.aload_n 2, 1) := by decide +kernel
theorem dL_outputCharacter_1 : decode cL_outputCharacter 1 = .ok (.iconst 0, 1) := by decide +kernel
theorem dL_outputCharacter_2 : decode cL_outputCharacter 2 = .ok (.aload_n 0, 1) := by decide +kernel
theorem dL_outputCharacter_3 : decode cL_outputCharacter 3 = .ok (.iload_n 1, 1) := by decide +kernel
theorem dL_outputCharacter_4 : decode cL_outputCharacter 4 = .ok (.invokevirtual 150, 3) := by decide +kernel
theorem dL_outputCharacter_7 : decode cL_outputCharacter 7 = .ok (.i2l, 1) := by decide +kernel
theorem dL_outputCharacter_8 : decode cL_outputCharacter 8 = .ok (.lastore, 1) := by decide +kernel
theorem dL_outputCharacter_9 : decode cL_outputCharacter 9 = .ok (.goto 6, 3) := by decide +kernel
theorem dL_outputCharacter_12 : decode cL_outputCharacter 12 = .ok (.astore_n 3, 1) := by decide +kernel
theorem dL_outputCharacter_13 : decode cL_outputCharacter 13 = .ok (.iconst 1, 1) := by decide +kernel
theorem dL_outputCharacter_14 : decode cL_outputCharacter 14 = .ok (.ireturn, 1) := by decide +kernel
theorem dL_outputCharacter_15 : decode cL_outputCharacter 15 = .ok (.iconst 0, 1) := by decide +kernel
theorem dL_outputCharacter_16 : decode cL_outputCharacter 16 = .ok (.ireturn, 1) := by decide +kernel
theorem dL_feed_0 : decode cL_feed 0 = .ok (.aload_n 2, 1) := by decide +kernel
theorem dL_feed_1 : decode cL_feed 1 = .ok (.iconst 0, 1) := by decide +kernel
theorem dL_feed_2 : decode cL_feed 2 = .ok (.aload_n 0, 1) := by decide +kernel
theorem dL_feed_3 : decode cL_feed 3 = .ok (.iload_n 1, 1) := by decide +kernel
theorem dL_feed_4 : decode cL_feed 4 = .ok (.invokevirtual 154, 3) := by decide +kernel
theorem dL_feed_7 : decode cL_feed 7 = .ok (.i2l, 1) := by decide +kernel
theorem dL_feed_8 : decode cL_feed 8 = .ok (.lastore, 1) := by decide +kernel
theorem dL_feed_9 : decode cL_feed 9 = .ok (.goto 6, 3) := by decide +kernel
theorem dL_feed_12 : decode cL_feed 12 = .ok (.astore_n 3, 1) := by decide +kernel
theorem dL_feed_13 : decode cL_feed 13 = .ok (.iconst 1, 1) := by decide +kernel
theorem dL_feed_14 : decode cL_feed 14 = .ok (.ireturn, 1) := by decide +kernel
theorem dL_feed_15 : decode cL_feed 15 = .ok (.iconst 0, 1) := by decide +kernel
theorem dL_feed_16 : decode cL_feed 16 = .ok (.ireturn, 1) := by decide +kernel
theorem dL_execute_0 : decode cL_execute 0 = .ok (.aload_n 1, 1) := by decide +kernel
theorem dL_execute_1 : decode cL_execute 1 = .ok (.iconst 0, 1) := by decide +kernel
theorem dL_execute_2 : decode cL_execute 2 = .ok (.aload_n 0, 1) := by decide +kernel
theorem dL_execute_3 : decode cL_execute 3 = .ok (.invokevirtual 158, 3) := by decide +kernel
theorem dL_execute_6 : decode cL_execute 6 = .ok (.i2l, 1) := by decide +kernel
theorem dL_execute_7 : decode cL_execute 7 = .ok (.lastore, 1) := by decide +kernel
theorem dL_execute_8 : decode cL_execute 8 = .ok (.goto 9, 3) := by decide +kernel
theorem dL_execute_11 : decode cL_execute 11 = .ok (.astore_n 2, 1) := by decide +kernel
theorem dL_execute_12 : decode cL_execute 12 = .ok (.iconst 1, 1) := by decide +kernel
theorem dL_execute_13 : decode cL_execute 13 = .ok (.ireturn, 1) := by decide +kernel
theorem dL_execute_14 : decode cL_execute 14 = .ok (.astore_n 2, 1) := by decide +kernel
theorem dL_execute_15 : decode cL_execute 15 = .ok (.iconst 2, 1) := by decide +kernel
theorem dL_execute_16 : decode cL_execute 16 = .ok (.ireturn, 1) := by decide +kernel
theorem dL_execute_17 : decode cL_execute 17 = .ok (.iconst 0, 1) := by decide +kernel
theorem dL_execute_18 : decode cL_execute 18 = .ok (.ireturn, 1) := by decide +kernel
theorem dL_errorPosition_0 : decode cL_errorPosition 0 = .ok (.aload_n 1, 1) := by decide +kernel
theorem dL_errorPosition_1 : decode cL_errorPosition 1 = .ok (.iconst 0, 1) := by decide +kernel
theorem dL_errorPosition_2 : decode cL_errorPosition 2 = .ok (.aload_n 0, 1) := by decide +kernel
theorem dL_errorPosition_3 : decode cL_errorPosition 3 = .ok (.invokevirtual 161, 3) := by decide +kernel
theorem dL_errorPosition_6 : decode cL_errorPosition 6 = .ok (.i2l, 1) := by decide +kernel
theorem dL_errorPosition_7 : decode cL_errorPosition 7 = .ok (.lastore, 1) := by decide +kernel
theorem dL_errorPosition_8 : decode cL_errorPosition 8 = .ok (.goto 6, 3) := by decide +kernel
theorem dL_errorPosition_11 : decode cL_errorPosition 11 = .ok (.astore_n 2, 1) := by decide +kernel
theorem dL_errorPosition_12 : decode cL_errorPosition 12 = .ok (.iconst 1, 1) := by decide +kernel
theorem dL_errorPosition_13 : decode cL_errorPosition 13 = .ok (.ireturn, 1) := by decide +kernel
theorem dL_errorPosition_14 : decode cL_errorPosition 14 = .ok (.iconst 0, 1) := by decide +kernel
theorem dL_errorPosition_15 : decode cL_errorPosition 15 = .ok (.ireturn, 1) := by decide +kernel
theorem dL_failedCommand_0 : decode cL_failedCommand 0 = .ok (.aload_n 1, 1) := by decide +kernel
theorem dL_failedCommand_1 : decode cL_failedCommand 1 = .ok (.iconst 0, 1) := by decide +kernel
theorem dL_failedCommand_2 : decode cL_failedCommand 2 = .ok (.aload_n 0, 1) := by decide +kernel
theorem dL_failedCommand_3 : decode cL_failedCommand 3 = .ok (.invokevirtual 164, 3) := by decide +kernel
theorem dL_failedCommand_6 : decode cL_failedCommand 6 = .ok (.i2l, 1) := by decide +kernel
theorem dL_failedCommand_7 : decode cL_failedCommand 7 = .ok (.lastore, 1) := by decide +kernel
theorem dL_failedCommand_8 : decode cL_failedCommand 8 = .ok (.goto 6, 3) := by decide +kernel
theorem dL_failedCommand_11 : decode cL_failedCommand 11 = .ok (.astore_n 2, 1) := by decide +kernel
theorem dL_failedCommand_12 : decode cL_failedCommand 12 = .ok (.iconst 1, 1) := by decide +kernel
theorem dL_failedCommand_13 : decode cL_failedCommand 13 = .ok (.ireturn, 1) := by decide +kernel
theorem dL_failedCommand_14 : decode cL_failedCommand 14 = .ok (.iconst 0, 1) := by decide +kernel
theorem dL_failedCommand_15 : decode cL_failedCommand 15 = .ok (.ireturn, 1) := by decide +kernel
theorem dL_undo_0 : decode cL_undo 0 = .ok (.aload_n 1, 1) := by decide +kernel
theorem dL_undo_1 : decode cL_undo 1 = .ok (.iconst 0, 1) := by decide +kernel
theorem dL_undo_2 : decode cL_undo 2 = .ok (.aload_n 0, 1) := by decide +kernel
theorem dL_undo_3 : decode cL_undo 3 = .ok (.invokevirtual 167, 3) := by decide +kernel
theorem dL_undo_6 : decode cL_undo 6 = .ok (.i2l, 1) := by decide +kernel
theorem dL_undo_7 : decode cL_undo 7 = .ok (.lastore, 1) := by decide +kernel
theorem dL_undo_8 : decode cL_undo 8 = .ok (.goto 6, 3) := by decide +kernel
theorem dL_undo_11 : decode cL_undo 11 = .ok (.astore_n 2, 1) := by decide +kernel
theorem dL_undo_12 : decode cL_undo 12 = .ok (.iconst 1, 1) := by decide +kernel
theorem dL_undo_13 : decode cL_undo 13 = .ok (.ireturn, 1) := by decide +kernel
theorem dL_undo_14 : decode cL_undo 14 = .ok (.iconst 0, 1) := by decide +kernel
theorem dL_undo_15 : decode cL_undo 15 = .ok (.ireturn, 1) := by decide +kernel
theorem dL_restore_0 : decode cL_restore 0 = .ok (.aload_n 1, 1) := by decide +kernel
theorem dL_restore_1 : decode cL_restore 1 = .ok (.iconst 0, 1) := by decide +kernel
theorem dL_restore_2 : decode cL_restore 2 = .ok (.aload_n 0, 1) := by decide +kernel
theorem dL_restore_3 : decode cL_restore 3 = .ok (.invokevirtual 170, 3) := by decide +kernel
theorem dL_restore_6 : decode cL_restore 6 = .ok (.i2l, 1) := by decide +kernel
theorem dL_restore_7 : decode cL_restore 7 = .ok (.lastore, 1) := by decide +kernel
theorem dL_restore_8 : decode cL_restore 8 = .ok (.goto 6, 3) := by decide +kernel
theorem dL_restore_11 : decode cL_restore 11 = .ok (.astore_n 2, 1) := by decide +kernel
theorem dL_restore_12 : decode cL_restore 12 = .ok (.iconst 1, 1) := by decide +kernel
theorem dL_restore_13 : decode cL_restore 13 = .ok (.ireturn, 1) := by decide +kernel
theorem dL_restore_14 : decode cL_restore 14 = .ok (.iconst 0, 1) := by decide +kernel
theorem dL_restore_15 : decode cL_restore 15 = .ok (.ireturn, 1) := by decide +kernel
