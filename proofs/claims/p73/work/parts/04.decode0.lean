theorem dJ0_charAt_5068e_0 : decode cJ0_charAt_5068e 0 = .ok (.aload_n 0, 1) := by decide +kernel
theorem dJ0_charAt_5068e_1 : decode cJ0_charAt_5068e 1 = .ok (.invokevirtual 492, 3) := by decide +kernel
theorem dJ0_charAt_5068e_4 : decode cJ0_charAt_5068e 4 = .ok (.ifCond .eq 12, 3) := by decide +kernel
theorem dJ0_charAt_5068e_7 : decode cJ0_charAt_5068e 7 = .ok (.aload_n 0, 1) := by decide +kernel
theorem dJ0_charAt_5068e_8 : decode cJ0_charAt_5068e 8 = .ok (.getfield 9, 3) := by decide +kernel
theorem dJ0_charAt_5068e_11 : decode cJ0_charAt_5068e 11 = .ok (.iload_n 1, 1) := by decide +kernel
theorem dJ0_charAt_5068e_12 : decode cJ0_charAt_5068e 12 = .ok (.invokestatic 495, 3) := by decide +kernel
theorem dJ0_charAt_5068e_15 : decode cJ0_charAt_5068e 15 = .ok (.ireturn, 1) := by decide +kernel
theorem dJ0_charAt_5068e_16 : decode cJ0_charAt_5068e 16 = .ok (.aload_n 0, 1) := by decide +kernel
theorem dJ0_charAt_5068e_17 : decode cJ0_charAt_5068e 17 = .ok (.getfield 9, 3) := by decide +kernel
theorem dJ0_charAt_5068e_20 : decode cJ0_charAt_5068e 20 = .ok (.iload_n 1, 1) := by decide +kernel
theorem dJ0_charAt_5068e_21 : decode cJ0_charAt_5068e 21 = .ok (.invokestatic 498, 3) := by decide +kernel
theorem dJ0_charAt_5068e_24 : decode cJ0_charAt_5068e 24 = .ok (.ireturn, 1) := by decide +kernel
theorem dJ0_checkIndex_df160_0 : decode cJ0_checkIndex_df160 0 = .ok (.iload_n 0, 1) := by decide +kernel
theorem dJ0_checkIndex_df160_1 : decode cJ0_checkIndex_df160 1 = .ok (.iload_n 1, 1) := by decide +kernel
theorem dJ0_checkIndex_df160_2 : decode cJ0_checkIndex_df160 2 = .ok (.getstatic 1053, 3) := by decide +kernel
theorem dJ0_checkIndex_df160_5 : decode cJ0_checkIndex_df160 5 = .ok (.invokestatic 1059, 3) := by decide +kernel
theorem dJ0_checkIndex_df160_8 : decode cJ0_checkIndex_df160 8 = .ok (.pop, 1) := by decide +kernel
theorem dJ0_checkIndex_df160_9 : decode cJ0_checkIndex_df160 9 = .ok (.return_, 1) := by decide +kernel
theorem dJ0_coder_7d493_0 : decode cJ0_coder_7d493 0 = .ok (.getstatic 38, 3) := by decide +kernel
theorem dJ0_coder_7d493_3 : decode cJ0_coder_7d493 3 = .ok (.ifCond .eq 10, 3) := by decide +kernel
theorem dJ0_coder_7d493_6 : decode cJ0_coder_7d493 6 = .ok (.aload_n 0, 1) := by decide +kernel
theorem dJ0_coder_7d493_7 : decode cJ0_coder_7d493 7 = .ok (.getfield 15, 3) := by decide +kernel
theorem dJ0_coder_7d493_10 : decode cJ0_coder_7d493 10 = .ok (.goto 4, 3) := by decide +kernel
theorem dJ0_coder_7d493_13 : decode cJ0_coder_7d493 13 = .ok (.iconst 1, 1) := by decide +kernel
theorem dJ0_coder_7d493_14 : decode cJ0_coder_7d493 14 = .ok (.ireturn, 1) := by decide +kernel
theorem dJ0_isLatin1_aae02_0 : decode cJ0_isLatin1_aae02 0 = .ok (.getstatic 38, 3) := by decide +kernel
theorem dJ0_isLatin1_aae02_3 : decode cJ0_isLatin1_aae02 3 = .ok (.ifCond .eq 14, 3) := by decide +kernel
theorem dJ0_isLatin1_aae02_6 : decode cJ0_isLatin1_aae02 6 = .ok (.aload_n 0, 1) := by decide +kernel
theorem dJ0_isLatin1_aae02_7 : decode cJ0_isLatin1_aae02 7 = .ok (.getfield 15, 3) := by decide +kernel
theorem dJ0_isLatin1_aae02_10 : decode cJ0_isLatin1_aae02 10 = .ok (.ifCond .ne 7, 3) := by decide +kernel
theorem dJ0_isLatin1_aae02_13 : decode cJ0_isLatin1_aae02 13 = .ok (.iconst 1, 1) := by decide +kernel
theorem dJ0_isLatin1_aae02_14 : decode cJ0_isLatin1_aae02 14 = .ok (.goto 4, 3) := by decide +kernel
theorem dJ0_isLatin1_aae02_17 : decode cJ0_isLatin1_aae02 17 = .ok (.iconst 0, 1) := by decide +kernel
theorem dJ0_isLatin1_aae02_18 : decode cJ0_isLatin1_aae02 18 = .ok (.ireturn, 1) := by decide +kernel
theorem dJ0_length_8abf5_0 : decode cJ0_length_8abf5 0 = .ok (.aload_n 0, 1) := by decide +kernel
theorem dJ0_length_8abf5_1 : decode cJ0_length_8abf5 1 = .ok (.getfield 9, 3) := by decide +kernel
theorem dJ0_length_8abf5_4 : decode cJ0_length_8abf5 4 = .ok (.arraylength, 1) := by decide +kernel
theorem dJ0_length_8abf5_5 : decode cJ0_length_8abf5 5 = .ok (.aload_n 0, 1) := by decide +kernel
theorem dJ0_length_8abf5_6 : decode cJ0_length_8abf5 6 = .ok (.invokevirtual 335, 3) := by decide +kernel
theorem dJ0_length_8abf5_9 : decode cJ0_length_8abf5 9 = .ok (.ishr, 1) := by decide +kernel
theorem dJ0_length_8abf5_10 : decode cJ0_length_8abf5 10 = .ok (.ireturn, 1) := by decide +kernel
theorem dJ1_charAt_3b067_0 : decode cJ1_charAt_3b067 0 = .ok (.iload_n 1, 1) := by decide +kernel
theorem dJ1_charAt_3b067_1 : decode cJ1_charAt_3b067 1 = .ok (.aload_n 0, 1) := by decide +kernel
theorem dJ1_charAt_3b067_2 : decode cJ1_charAt_3b067 2 = .ok (.arraylength, 1) := by decide +kernel
theorem dJ1_charAt_3b067_3 : decode cJ1_charAt_3b067 3 = .ok (.invokestatic 9, 3) := by decide +kernel
theorem dJ1_charAt_3b067_6 : decode cJ1_charAt_3b067 6 = .ok (.aload_n 0, 1) := by decide +kernel
theorem dJ1_charAt_3b067_7 : decode cJ1_charAt_3b067 7 = .ok (.iload_n 1, 1) := by decide +kernel
theorem dJ1_charAt_3b067_8 : decode cJ1_charAt_3b067 8 = .ok (.baload, 1) := by decide +kernel
theorem dJ1_charAt_3b067_9 : decode cJ1_charAt_3b067 9 = .ok (.sipush 255, 3) := by decide +kernel
theorem dJ1_charAt_3b067_12 : decode cJ1_charAt_3b067 12 = .ok (.iand, 1) := by decide +kernel
theorem dJ1_charAt_3b067_13 : decode cJ1_charAt_3b067 13 = .ok (.i2c, 1) := by decide +kernel
theorem dJ1_charAt_3b067_14 : decode cJ1_charAt_3b067 14 = .ok (.ireturn, 1) := by decide +kernel
theorem dJ2_charAt_3b067_0 : decode cJ2_charAt_3b067 0 = .ok (.iload_n 1, 1) := by decide +kernel
theorem dJ2_charAt_3b067_1 : decode cJ2_charAt_3b067 1 = .ok (.aload_n 0, 1) := by decide +kernel
theorem dJ2_charAt_3b067_2 : decode cJ2_charAt_3b067 2 = .ok (.invokestatic 67, 3) := by decide +kernel
theorem dJ2_charAt_3b067_5 : decode cJ2_charAt_3b067 5 = .ok (.aload_n 0, 1) := by decide +kernel
theorem dJ2_charAt_3b067_6 : decode cJ2_charAt_3b067 6 = .ok (.iload_n 1, 1) := by decide +kernel
theorem dJ2_charAt_3b067_7 : decode cJ2_charAt_3b067 7 = .ok (.invokestatic 71, 3) := by decide +kernel
theorem dJ2_charAt_3b067_10 : decode cJ2_charAt_3b067 10 = .ok (.ireturn, 1) := by decide +kernel
theorem dJ2_checkIndex_2214a_0 : decode cJ2_checkIndex_2214a 0 = .ok (.iload_n 0, 1) := by decide +kernel
theorem dJ2_checkIndex_2214a_1 : decode cJ2_checkIndex_2214a 1 = .ok (.aload_n 1, 1) := by decide +kernel
theorem dJ2_checkIndex_2214a_2 : decode cJ2_checkIndex_2214a 2 = .ok (.invokestatic 48, 3) := by decide +kernel
theorem dJ2_checkIndex_2214a_5 : decode cJ2_checkIndex_2214a 5 = .ok (.invokestatic 414, 3) := by decide +kernel
theorem dJ2_checkIndex_2214a_8 : decode cJ2_checkIndex_2214a 8 = .ok (.return_, 1) := by decide +kernel
theorem dJ2_getChar_3b067_0 : decode cJ2_getChar_3b067 0 = .ok (.getstatic 44, 3) := by decide +kernel
theorem dJ2_getChar_3b067_3 : decode cJ2_getChar_3b067 3 = .ok (.ifCond .ne 25, 3) := by decide +kernel
theorem dJ2_getChar_3b067_6 : decode cJ2_getChar_3b067 6 = .ok (.iload_n 1, 1) := by decide +kernel
theorem dJ2_getChar_3b067_7 : decode cJ2_getChar_3b067 7 = .ok (.ifCond .lt 11, 3) := by decide +kernel
theorem dJ2_getChar_3b067_10 : decode cJ2_getChar_3b067 10 = .ok (.iload_n 1, 1) := by decide +kernel
theorem dJ2_getChar_3b067_11 : decode cJ2_getChar_3b067 11 = .ok (.aload_n 0, 1) := by decide +kernel
theorem dJ2_getChar_3b067_12 : decode cJ2_getChar_3b067 12 = .ok (.invokestatic 48, 3) := by decide +kernel
theorem dJ2_getChar_3b067_15 : decode cJ2_getChar_3b067 15 = .ok (.if_icmp .lt 13, 3) := by decide +kernel
theorem dJ2_getChar_3b067_18 : decode cJ2_getChar_3b067 18 = .ok (.new 52, 3) := by decide +kernel
theorem dJ2_getChar_3b067_21 : decode cJ2_getChar_3b067 21 = .ok (.dup, 1) := by decide +kernel
theorem dJ2_getChar_3b067_22 : decode cJ2_getChar_3b067 22 = .ok (.ldc 54, 2) := by decide +kernel
theorem dJ2_getChar_3b067_24 : decode cJ2_getChar_3b067 24 = .ok (.invokespecial 56, 3) := by decide +kernel
theorem dJ2_getChar_3b067_27 : decode cJ2_getChar_3b067 27 = .ok (.athrow, 1) := by decide +kernel
theorem dJ2_getChar_3b067_28 : decode cJ2_getChar_3b067 28 = .ok (.iload_n 1, 1) := by decide +kernel
theorem dJ2_getChar_3b067_29 : decode cJ2_getChar_3b067 29 = .ok (.iconst 1, 1) := by decide +kernel
theorem dJ2_getChar_3b067_30 : decode cJ2_getChar_3b067 30 = .ok (.ishl, 1) := by decide +kernel
theorem dJ2_getChar_3b067_31 : decode cJ2_getChar_3b067 31 = .ok (.istore_n 1, 1) := by decide +kernel
theorem dJ2_getChar_3b067_32 : decode cJ2_getChar_3b067 32 = .ok (.aload_n 0, 1) := by decide +kernel
theorem dJ2_getChar_3b067_33 : decode cJ2_getChar_3b067 33 = .ok (.iload_n 1, 1) := by decide +kernel
theorem dJ2_getChar_3b067_34 : decode cJ2_getChar_3b067 34 = .ok (.iinc 1 1, 3) := by decide +kernel
theorem dJ2_getChar_3b067_37 : decode cJ2_getChar_3b067 37 = .ok (.baload, 1) := by decide +kernel
theorem dJ2_getChar_3b067_38 : decode cJ2_getChar_3b067 38 = .ok (.sipush 255, 3) := by decide +kernel
theorem dJ2_getChar_3b067_41 : decode cJ2_getChar_3b067 41 = .ok (.iand, 1) := by decide +kernel
theorem dJ2_getChar_3b067_42 : decode cJ2_getChar_3b067 42 = .ok (.getstatic 59, 3) := by decide +kernel
theorem dJ2_getChar_3b067_45 : decode cJ2_getChar_3b067 45 = .ok (.ishl, 1) := by decide +kernel
theorem dJ2_getChar_3b067_46 : decode cJ2_getChar_3b067 46 = .ok (.aload_n 0, 1) := by decide +kernel
theorem dJ2_getChar_3b067_47 : decode cJ2_getChar_3b067 47 = .ok (.iload_n 1, 1) := by decide +kernel
theorem dJ2_getChar_3b067_48 : decode cJ2_getChar_3b067 48 = .ok (.baload, 1) := by decide +kernel
theorem dJ2_getChar_3b067_49 : decode cJ2_getChar_3b067 49 = .ok (.sipush 255, 3) := by decide +kernel
theorem dJ2_getChar_3b067_52 : decode cJ2_getChar_3b067 52 = .ok (.iand, 1) := by decide +kernel
theorem dJ2_getChar_3b067_53 : decode cJ2_getChar_3b067 53 = .ok (.getstatic 63, 3) := by decide +kernel
theorem dJ2_getChar_3b067_56 : decode cJ2_getChar_3b067 56 = .ok (.ishl, 1) := by decide +kernel
theorem dJ2_getChar_3b067_57 : decode cJ2_getChar_3b067 57 = .ok (.ior, 1) := by decide +kernel
theorem dJ2_getChar_3b067_58 : decode cJ2_getChar_3b067 58 = .ok (.i2c, 1) := by decide +kernel
theorem dJ2_getChar_3b067_59 : decode cJ2_getChar_3b067 59 = .ok (.ireturn, 1) := by decide +kernel
theorem dJ2_length_9d52b_0 : decode cJ2_length_9d52b 0 = .ok (.aload_n 0, 1) := by decide +kernel
theorem dJ2_length_9d52b_1 : decode cJ2_length_9d52b 1 = .ok (.arraylength, 1) := by decide +kernel
theorem dJ2_length_9d52b_2 : decode cJ2_length_9d52b 2 = .ok (.iconst 1, 1) := by decide +kernel
theorem dJ2_length_9d52b_3 : decode cJ2_length_9d52b 3 = .ok (.ishr, 1) := by decide +kernel
theorem dJ2_length_9d52b_4 : decode cJ2_length_9d52b 4 = .ok (.ireturn, 1) := by decide +kernel
theorem dJ3_checkIndex_8e157_0 : decode cJ3_checkIndex_8e157 0 = .ok (.iload_n 0, 1) := by decide +kernel
theorem dJ3_checkIndex_8e157_1 : decode cJ3_checkIndex_8e157 1 = .ok (.ifCond .lt 8, 3) := by decide +kernel
theorem dJ3_checkIndex_8e157_4 : decode cJ3_checkIndex_8e157 4 = .ok (.iload_n 0, 1) := by decide +kernel
theorem dJ3_checkIndex_8e157_5 : decode cJ3_checkIndex_8e157 5 = .ok (.iload_n 1, 1) := by decide +kernel
theorem dJ3_checkIndex_8e157_6 : decode cJ3_checkIndex_8e157 6 = .ok (.if_icmp .lt 10, 3) := by decide +kernel
theorem dJ3_checkIndex_8e157_9 : decode cJ3_checkIndex_8e157 9 = .ok (.aload_n 2, 1) := by decide +kernel
theorem dJ3_checkIndex_8e157_10 : decode cJ3_checkIndex_8e157 10 = .ok (.iload_n 0, 1) := by decide +kernel
theorem dJ3_checkIndex_8e157_11 : decode cJ3_checkIndex_8e157 11 = .ok (.iload_n 1, 1) := by decide +kernel
theorem dJ3_checkIndex_8e157_12 : decode cJ3_checkIndex_8e157 12 = .ok (.invokestatic 95, 3) := by decide +kernel
theorem dJ3_checkIndex_8e157_15 : decode cJ3_checkIndex_8e157 15 = .ok (.athrow, 1) := by decide +kernel
theorem dJ3_checkIndex_8e157_16 : decode cJ3_checkIndex_8e157 16 = .ok (.iload_n 0, 1) := by decide +kernel
theorem dJ3_checkIndex_8e157_17 : decode cJ3_checkIndex_8e157 17 = .ok (.ireturn, 1) := by decide +kernel
theorem dJ6_bitCount_0f7a4_0 : decode cJ6_bitCount_0f7a4 0 = .ok (.iload_n 0, 1) := by decide +kernel
theorem dJ6_bitCount_0f7a4_1 : decode cJ6_bitCount_0f7a4 1 = .ok (.iload_n 0, 1) := by decide +kernel
theorem dJ6_bitCount_0f7a4_2 : decode cJ6_bitCount_0f7a4 2 = .ok (.iconst 1, 1) := by decide +kernel
theorem dJ6_bitCount_0f7a4_3 : decode cJ6_bitCount_0f7a4 3 = .ok (.iushr, 1) := by decide +kernel
theorem dJ6_bitCount_0f7a4_4 : decode cJ6_bitCount_0f7a4 4 = .ok (.ldc_w 265, 3) := by decide +kernel
theorem dJ6_bitCount_0f7a4_7 : decode cJ6_bitCount_0f7a4 7 = .ok (.iand, 1) := by decide +kernel
theorem dJ6_bitCount_0f7a4_8 : decode cJ6_bitCount_0f7a4 8 = .ok (.isub, 1) := by decide +kernel
theorem dJ6_bitCount_0f7a4_9 : decode cJ6_bitCount_0f7a4 9 = .ok (.istore_n 0, 1) := by decide +kernel
theorem dJ6_bitCount_0f7a4_10 : decode cJ6_bitCount_0f7a4 10 = .ok (.iload_n 0, 1) := by decide +kernel
theorem dJ6_bitCount_0f7a4_11 : decode cJ6_bitCount_0f7a4 11 = .ok (.ldc_w 266, 3) := by decide +kernel
theorem dJ6_bitCount_0f7a4_14 : decode cJ6_bitCount_0f7a4 14 = .ok (.iand, 1) := by decide +kernel
theorem dJ6_bitCount_0f7a4_15 : decode cJ6_bitCount_0f7a4 15 = .ok (.iload_n 0, 1) := by decide +kernel
theorem dJ6_bitCount_0f7a4_16 : decode cJ6_bitCount_0f7a4 16 = .ok (.iconst 2, 1) := by decide +kernel
theorem dJ6_bitCount_0f7a4_17 : decode cJ6_bitCount_0f7a4 17 = .ok (.iushr, 1) := by decide +kernel
theorem dJ6_bitCount_0f7a4_18 : decode cJ6_bitCount_0f7a4 18 = .ok (.ldc_w 266, 3) := by decide +kernel
theorem dJ6_bitCount_0f7a4_21 : decode cJ6_bitCount_0f7a4 21 = .ok (.iand, 1) := by decide +kernel
theorem dJ6_bitCount_0f7a4_22 : decode cJ6_bitCount_0f7a4 22 = .ok (.iadd, 1) := by decide +kernel
theorem dJ6_bitCount_0f7a4_23 : decode cJ6_bitCount_0f7a4 23 = .ok (.istore_n 0, 1) := by decide +kernel
theorem dJ6_bitCount_0f7a4_24 : decode cJ6_bitCount_0f7a4 24 = .ok (.iload_n 0, 1) := by decide +kernel
theorem dJ6_bitCount_0f7a4_25 : decode cJ6_bitCount_0f7a4 25 = .ok (.iload_n 0, 1) := by decide +kernel
theorem dJ6_bitCount_0f7a4_26 : decode cJ6_bitCount_0f7a4 26 = .ok (.iconst 4, 1) := by decide +kernel
theorem dJ6_bitCount_0f7a4_27 : decode cJ6_bitCount_0f7a4 27 = .ok (.iushr, 1) := by decide +kernel
theorem dJ6_bitCount_0f7a4_28 : decode cJ6_bitCount_0f7a4 28 = .ok (.iadd, 1) := by decide +kernel
theorem dJ6_bitCount_0f7a4_29 : decode cJ6_bitCount_0f7a4 29 = .ok (.ldc_w 267, 3) := by decide +kernel
theorem dJ6_bitCount_0f7a4_32 : decode cJ6_bitCount_0f7a4 32 = .ok (.iand, 1) := by decide +kernel
theorem dJ6_bitCount_0f7a4_33 : decode cJ6_bitCount_0f7a4 33 = .ok (.istore_n 0, 1) := by decide +kernel
theorem dJ6_bitCount_0f7a4_34 : decode cJ6_bitCount_0f7a4 34 = .ok (.iload_n 0, 1) := by decide +kernel
theorem dJ6_bitCount_0f7a4_35 : decode cJ6_bitCount_0f7a4 35 = .ok (.iload_n 0, 1) := by decide +kernel
theorem dJ6_bitCount_0f7a4_36 : decode cJ6_bitCount_0f7a4 36 = .ok (.bipush 8, 2) := by decide +kernel
theorem dJ6_bitCount_0f7a4_38 : decode cJ6_bitCount_0f7a4 38 = .ok (.iushr, 1) := by decide +kernel
theorem dJ6_bitCount_0f7a4_39 : decode cJ6_bitCount_0f7a4 39 = .ok (.iadd, 1) := by decide +kernel
theorem dJ6_bitCount_0f7a4_40 : decode cJ6_bitCount_0f7a4 40 = .ok (.istore_n 0, 1) := by decide +kernel
theorem dJ6_bitCount_0f7a4_41 : decode cJ6_bitCount_0f7a4 41 = .ok (.iload_n 0, 1) := by decide +kernel
theorem dJ6_bitCount_0f7a4_42 : decode cJ6_bitCount_0f7a4 42 = .ok (.iload_n 0, 1) := by decide +kernel
theorem dJ6_bitCount_0f7a4_43 : decode cJ6_bitCount_0f7a4 43 = .ok (.bipush 16, 2) := by decide +kernel
theorem dJ6_bitCount_0f7a4_45 : decode cJ6_bitCount_0f7a4 45 = .ok (.iushr, 1) := by decide +kernel
theorem dJ6_bitCount_0f7a4_46 : decode cJ6_bitCount_0f7a4 46 = .ok (.iadd, 1) := by decide +kernel
theorem dJ6_bitCount_0f7a4_47 : decode cJ6_bitCount_0f7a4 47 = .ok (.istore_n 0, 1) := by decide +kernel
theorem dJ6_bitCount_0f7a4_48 : decode cJ6_bitCount_0f7a4 48 = .ok (.iload_n 0, 1) := by decide +kernel
theorem dJ6_bitCount_0f7a4_49 : decode cJ6_bitCount_0f7a4 49 = .ok (.bipush 63, 2) := by decide +kernel
theorem dJ6_bitCount_0f7a4_51 : decode cJ6_bitCount_0f7a4 51 = .ok (.iand, 1) := by decide +kernel
theorem dJ6_bitCount_0f7a4_52 : decode cJ6_bitCount_0f7a4 52 = .ok (.ireturn, 1) := by decide +kernel
theorem dX0_begin_0 : decode cX0_begin 0 = .ok (.aload_n 1, 1) := by decide +kernel
theorem dX0_begin_1 : decode cX0_begin 1 = .ok (.getfield 24, 3) := by decide +kernel
theorem dX0_begin_4 : decode cX0_begin 4 = .ok (.iconst 0, 1) := by decide +kernel
theorem dX0_begin_5 : decode cX0_begin 5 = .ok (.aload_n 0, 1) := by decide +kernel
theorem dX0_begin_6 : decode cX0_begin 6 = .ok (.getfield 18, 3) := by decide +kernel
theorem dX0_begin_9 : decode cX0_begin 9 = .ok (.iconst 0, 1) := by decide +kernel
theorem dX0_begin_10 : decode cX0_begin 10 = .ok (.bipush 6, 2) := by decide +kernel
theorem dX0_begin_12 : decode cX0_begin 12 = .ok (.invokestatic 29, 3) := by decide +kernel
theorem dX0_begin_15 : decode cX0_begin 15 = .ok (.aload_n 2, 1) := by decide +kernel
theorem dX0_begin_16 : decode cX0_begin 16 = .ok (.iconst 0, 1) := by decide +kernel
theorem dX0_begin_17 : decode cX0_begin 17 = .ok (.aload_n 0, 1) := by decide +kernel
theorem dX0_begin_18 : decode cX0_begin 18 = .ok (.getfield 21, 3) := by decide +kernel
theorem dX0_begin_21 : decode cX0_begin 21 = .ok (.iconst 0, 1) := by decide +kernel
theorem dX0_begin_22 : decode cX0_begin 22 = .ok (.bipush 6, 2) := by decide +kernel
theorem dX0_begin_24 : decode cX0_begin 24 = .ok (.invokestatic 29, 3) := by decide +kernel
theorem dX0_begin_27 : decode cX0_begin 27 = .ok (.return_, 1) := by decide +kernel
theorem dX0_hearAt_0 : decode cX0_hearAt 0 = .ok (.iload_n 3, 1) := by decide +kernel
theorem dX0_hearAt_1 : decode cX0_hearAt 1 = .ok (.aload_n 0, 1) := by decide +kernel
theorem dX0_hearAt_2 : decode cX0_hearAt 2 = .ok (.getfield 18, 3) := by decide +kernel
theorem dX0_hearAt_5 : decode cX0_hearAt 5 = .ok (.iload_n 1, 1) := by decide +kernel
theorem dX0_hearAt_6 : decode cX0_hearAt 6 = .ok (.iaload, 1) := by decide +kernel
theorem dX0_hearAt_7 : decode cX0_hearAt 7 = .ok (.iload_n 2, 1) := by decide +kernel
theorem dX0_hearAt_8 : decode cX0_hearAt 8 = .ok (.isub, 1) := by decide +kernel
theorem dX0_hearAt_9 : decode cX0_hearAt 9 = .ok (.invokestatic 60, 3) := by decide +kernel
theorem dX0_hearAt_12 : decode cX0_hearAt 12 = .ok (.iadd, 1) := by decide +kernel
theorem dX0_hearAt_13 : decode cX0_hearAt 13 = .ok (.aload_n 0, 1) := by decide +kernel
theorem dX0_hearAt_14 : decode cX0_hearAt 14 = .ok (.getfield 21, 3) := by decide +kernel
theorem dX0_hearAt_17 : decode cX0_hearAt 17 = .ok (.iload_n 1, 1) := by decide +kernel
theorem dX0_hearAt_18 : decode cX0_hearAt 18 = .ok (.iaload, 1) := by decide +kernel
theorem dX0_hearAt_19 : decode cX0_hearAt 19 = .ok (.invokestatic 66, 3) := by decide +kernel
theorem dX0_hearAt_22 : decode cX0_hearAt 22 = .ok (.ireturn, 1) := by decide +kernel
theorem dX0_init_0 : decode cX0_init 0 = .ok (.aload_n 0, 1) := by decide +kernel
theorem dX0_init_1 : decode cX0_init 1 = .ok (.invokespecial 3, 3) := by decide +kernel
theorem dX0_init_4 : decode cX0_init 4 = .ok (.aload_n 0, 1) := by decide +kernel
theorem dX0_init_5 : decode cX0_init 5 = .ok (.bipush 6, 2) := by decide +kernel
theorem dX0_init_7 : decode cX0_init 7 = .ok (.newarray .int, 2) := by decide +kernel
theorem dX0_init_9 : decode cX0_init 9 = .ok (.putfield 9, 3) := by decide +kernel
theorem dX0_init_12 : decode cX0_init 12 = .ok (.aload_n 0, 1) := by decide +kernel
theorem dX0_init_13 : decode cX0_init 13 = .ok (.bipush 6, 2) := by decide +kernel
theorem dX0_init_15 : decode cX0_init 15 = .ok (.newarray .int, 2) := by decide +kernel
theorem dX0_init_17 : decode cX0_init 17 = .ok (.putfield 15, 3) := by decide +kernel
theorem dX0_init_20 : decode cX0_init 20 = .ok (.aload_n 0, 1) := by decide +kernel
theorem dX0_init_21 : decode cX0_init 21 = .ok (.bipush 6, 2) := by decide +kernel
theorem dX0_init_23 : decode cX0_init 23 = .ok (.newarray .int, 2) := by decide +kernel
theorem dX0_init_25 : decode cX0_init 25 = .ok (.putfield 18, 3) := by decide +kernel
theorem dX0_init_28 : decode cX0_init 28 = .ok (.aload_n 0, 1) := by decide +kernel
theorem dX0_init_29 : decode cX0_init 29 = .ok (.bipush 6, 2) := by decide +kernel
theorem dX0_init_31 : decode cX0_init 31 = .ok (.newarray .int, 2) := by decide +kernel
theorem dX0_init_33 : decode cX0_init 33 = .ok (.putfield 21, 3) := by decide +kernel
theorem dX0_init_36 : decode cX0_init 36 = .ok (.return_, 1) := by decide +kernel
theorem dX0_isWay_0 : decode cX0_isWay 0 = .ok (.iload_n 1, 1) := by decide +kernel
theorem dX0_isWay_1 : decode cX0_isWay 1 = .ok (.istore_n 2, 1) := by decide +kernel
theorem dX0_isWay_2 : decode cX0_isWay 2 = .ok (.iconst 0, 1) := by decide +kernel
theorem dX0_isWay_3 : decode cX0_isWay 3 = .ok (.istore_n 3, 1) := by decide +kernel
theorem dX0_isWay_4 : decode cX0_isWay 4 = .ok (.iload_n 3, 1) := by decide +kernel
theorem dX0_isWay_5 : decode cX0_isWay 5 = .ok (.aload_n 0, 1) := by decide +kernel
theorem dX0_isWay_6 : decode cX0_isWay 6 = .ok (.getfield 70, 3) := by decide +kernel
theorem dX0_isWay_9 : decode cX0_isWay 9 = .ok (.if_icmp .ge 55, 3) := by decide +kernel
theorem dX0_isWay_12 : decode cX0_isWay 12 = .ok (.aload_n 0, 1) := by decide +kernel
theorem dX0_isWay_13 : decode cX0_isWay 13 = .ok (.getfield 73, 3) := by decide +kernel
theorem dX0_isWay_16 : decode cX0_isWay 16 = .ok (.iload_n 3, 1) := by decide +kernel
theorem dX0_isWay_17 : decode cX0_isWay 17 = .ok (.laload, 1) := by decide +kernel
theorem dX0_isWay_18 : decode cX0_isWay 18 = .ok (.lstore 4, 2) := by decide +kernel
theorem dX0_isWay_20 : decode cX0_isWay 20 = .ok (.lload 4, 2) := by decide +kernel
theorem dX0_isWay_22 : decode cX0_isWay 22 = .ok (.lconst 0, 1) := by decide +kernel
theorem dX0_isWay_23 : decode cX0_isWay 23 = .ok (.lcmp, 1) := by decide +kernel
theorem dX0_isWay_24 : decode cX0_isWay 24 = .ok (.ifCond .lt 22, 3) := by decide +kernel
theorem dX0_isWay_27 : decode cX0_isWay 27 = .ok (.lload 4, 2) := by decide +kernel
theorem dX0_isWay_29 : decode cX0_isWay 29 = .ok (.ldc2_w 77, 3) := by decide +kernel
theorem dX0_isWay_32 : decode cX0_isWay 32 = .ok (.lcmp, 1) := by decide +kernel
theorem dX0_isWay_33 : decode cX0_isWay 33 = .ok (.ifCond .ge 13, 3) := by decide +kernel
theorem dX0_isWay_36 : decode cX0_isWay 36 = .ok (.iload_n 2, 1) := by decide +kernel
theorem dX0_isWay_37 : decode cX0_isWay 37 = .ok (.lload 4, 2) := by decide +kernel
theorem dX0_isWay_39 : decode cX0_isWay 39 = .ok (.l2i, 1) := by decide +kernel
theorem dX0_isWay_40 : decode cX0_isWay 40 = .ok (.invokestatic 50, 3) := by decide +kernel
theorem dX0_isWay_43 : decode cX0_isWay 43 = .ok (.ifCond .ne 5, 3) := by decide +kernel
theorem dX0_isWay_46 : decode cX0_isWay 46 = .ok (.iconst 0, 1) := by decide +kernel
theorem dX0_isWay_47 : decode cX0_isWay 47 = .ok (.ireturn, 1) := by decide +kernel
theorem dX0_isWay_48 : decode cX0_isWay 48 = .ok (.iload_n 2, 1) := by decide +kernel
theorem dX0_isWay_49 : decode cX0_isWay 49 = .ok (.iconst 1, 1) := by decide +kernel
theorem dX0_isWay_50 : decode cX0_isWay 50 = .ok (.lload 4, 2) := by decide +kernel
theorem dX0_isWay_52 : decode cX0_isWay 52 = .ok (.l2i, 1) := by decide +kernel
theorem dX0_isWay_53 : decode cX0_isWay 53 = .ok (.ishl, 1) := by decide +kernel
theorem dX0_isWay_54 : decode cX0_isWay 54 = .ok (.iconst (-1), 1) := by decide +kernel
theorem dX0_isWay_55 : decode cX0_isWay 55 = .ok (.ixor, 1) := by decide +kernel
theorem dX0_isWay_56 : decode cX0_isWay 56 = .ok (.iand, 1) := by decide +kernel
theorem dX0_isWay_57 : decode cX0_isWay 57 = .ok (.istore_n 2, 1) := by decide +kernel
theorem dX0_isWay_58 : decode cX0_isWay 58 = .ok (.iinc 3 1, 3) := by decide +kernel
theorem dX0_isWay_61 : decode cX0_isWay 61 = .ok (.goto (-57), 3) := by decide +kernel
theorem dX0_isWay_64 : decode cX0_isWay 64 = .ok (.iload_n 2, 1) := by decide +kernel
theorem dX0_isWay_65 : decode cX0_isWay 65 = .ok (.ifCond .ne 7, 3) := by decide +kernel
theorem dX0_isWay_68 : decode cX0_isWay 68 = .ok (.iconst 1, 1) := by decide +kernel
theorem dX0_isWay_69 : decode cX0_isWay 69 = .ok (.goto 4, 3) := by decide +kernel
theorem dX0_isWay_72 : decode cX0_isWay 72 = .ok (.iconst 0, 1) := by decide +kernel
theorem dX0_isWay_73 : decode cX0_isWay 73 = .ok (.ireturn, 1) := by decide +kernel
theorem dX0_keep_0 : decode cX0_keep 0 = .ok (.iload_n 2, 1) := by decide +kernel
theorem dX0_keep_1 : decode cX0_keep 1 = .ok (.aload_n 0, 1) := by decide +kernel
theorem dX0_keep_2 : decode cX0_keep 2 = .ok (.getfield 35, 3) := by decide +kernel
theorem dX0_keep_5 : decode cX0_keep 5 = .ok (.if_icmp .ge 28, 3) := by decide +kernel
theorem dX0_keep_8 : decode cX0_keep 8 = .ok (.aload_n 0, 1) := by decide +kernel
theorem dX0_keep_9 : decode cX0_keep 9 = .ok (.iload_n 2, 1) := by decide +kernel
theorem dX0_keep_10 : decode cX0_keep 10 = .ok (.putfield 35, 3) := by decide +kernel
theorem dX0_keep_13 : decode cX0_keep 13 = .ok (.aload_n 0, 1) := by decide +kernel
theorem dX0_keep_14 : decode cX0_keep 14 = .ok (.iload_n 1, 1) := by decide +kernel
theorem dX0_keep_15 : decode cX0_keep 15 = .ok (.putfield 39, 3) := by decide +kernel
theorem dX0_keep_18 : decode cX0_keep 18 = .ok (.aload_n 0, 1) := by decide +kernel
theorem dX0_keep_19 : decode cX0_keep 19 = .ok (.getfield 15, 3) := by decide +kernel
theorem dX0_keep_22 : decode cX0_keep 22 = .ok (.iconst 0, 1) := by decide +kernel
theorem dX0_keep_23 : decode cX0_keep 23 = .ok (.aload_n 0, 1) := by decide +kernel
theorem dX0_keep_24 : decode cX0_keep 24 = .ok (.getfield 9, 3) := by decide +kernel
theorem dX0_keep_27 : decode cX0_keep 27 = .ok (.iconst 0, 1) := by decide +kernel
theorem dX0_keep_28 : decode cX0_keep 28 = .ok (.bipush 6, 2) := by decide +kernel
theorem dX0_keep_30 : decode cX0_keep 30 = .ok (.invokestatic 29, 3) := by decide +kernel
theorem dX0_keep_33 : decode cX0_keep 33 = .ok (.return_, 1) := by decide +kernel
theorem dX0_search_0 : decode cX0_search 0 = .ok (.aload_n 0, 1) := by decide +kernel
theorem dX0_search_1 : decode cX0_search 1 = .ok (.sipush 10000, 3) := by decide +kernel
theorem dX0_search_4 : decode cX0_search 4 = .ok (.putfield 35, 3) := by decide +kernel
theorem dX0_search_7 : decode cX0_search 7 = .ok (.aload_n 0, 1) := by decide +kernel
theorem dX0_search_8 : decode cX0_search 8 = .ok (.iconst 0, 1) := by decide +kernel
theorem dX0_search_9 : decode cX0_search 9 = .ok (.putfield 39, 3) := by decide +kernel
theorem dX0_search_12 : decode cX0_search 12 = .ok (.aload_n 0, 1) := by decide +kernel
theorem dX0_search_13 : decode cX0_search 13 = .ok (.iconst 0, 1) := by decide +kernel
theorem dX0_search_14 : decode cX0_search 14 = .ok (.iload_n 1, 1) := by decide +kernel
theorem dX0_search_15 : decode cX0_search 15 = .ok (.iconst 0, 1) := by decide +kernel
theorem dX0_search_16 : decode cX0_search 16 = .ok (.iload_n 2, 1) := by decide +kernel
theorem dX0_search_17 : decode cX0_search 17 = .ok (.invokevirtual 42, 3) := by decide +kernel
theorem dX0_search_20 : decode cX0_search 20 = .ok (.return_, 1) := by decide +kernel
theorem dX0_seek_0 : decode cX0_seek 0 = .ok (.iload 4, 2) := by decide +kernel
theorem dX0_seek_2 : decode cX0_seek 2 = .ok (.ifCond .eq 9, 3) := by decide +kernel
theorem dX0_seek_5 : decode cX0_seek 5 = .ok (.iload_n 1, 1) := by decide +kernel
theorem dX0_seek_6 : decode cX0_seek 6 = .ok (.bipush 6, 2) := by decide +kernel
theorem dX0_seek_8 : decode cX0_seek 8 = .ok (.if_icmp .lt 10, 3) := by decide +kernel
theorem dX0_seek_11 : decode cX0_seek 11 = .ok (.aload_n 0, 1) := by decide +kernel
theorem dX0_seek_12 : decode cX0_seek 12 = .ok (.iload_n 1, 1) := by decide +kernel
theorem dX0_seek_13 : decode cX0_seek 13 = .ok (.iload_n 3, 1) := by decide +kernel
theorem dX0_seek_14 : decode cX0_seek 14 = .ok (.invokevirtual 46, 3) := by decide +kernel
theorem dX0_seek_17 : decode cX0_seek 17 = .ok (.return_, 1) := by decide +kernel
theorem dX0_seek_18 : decode cX0_seek 18 = .ok (.iconst 0, 1) := by decide +kernel
theorem dX0_seek_19 : decode cX0_seek 19 = .ok (.istore 5, 2) := by decide +kernel
theorem dX0_seek_21 : decode cX0_seek 21 = .ok (.iload 5, 2) := by decide +kernel
theorem dX0_seek_23 : decode cX0_seek 23 = .ok (.bipush 6, 2) := by decide +kernel
theorem dX0_seek_25 : decode cX0_seek 25 = .ok (.if_icmp .ge 71, 3) := by decide +kernel
theorem dX0_seek_28 : decode cX0_seek 28 = .ok (.iload 4, 2) := by decide +kernel
theorem dX0_seek_30 : decode cX0_seek 30 = .ok (.iload 5, 2) := by decide +kernel
theorem dX0_seek_32 : decode cX0_seek 32 = .ok (.invokestatic 50, 3) := by decide +kernel
theorem dX0_seek_35 : decode cX0_seek 35 = .ok (.ifCond .eq 55, 3) := by decide +kernel
theorem dX0_seek_38 : decode cX0_seek 38 = .ok (.aload_n 0, 1) := by decide +kernel
theorem dX0_seek_39 : decode cX0_seek 39 = .ok (.iload 5, 2) := by decide +kernel
theorem dX0_seek_41 : decode cX0_seek 41 = .ok (.iload_n 2, 1) := by decide +kernel
theorem dX0_seek_42 : decode cX0_seek 42 = .ok (.iload_n 3, 1) := by decide +kernel
theorem dX0_seek_43 : decode cX0_seek 43 = .ok (.invokevirtual 56, 3) := by decide +kernel
theorem dX0_seek_46 : decode cX0_seek 46 = .ok (.istore 6, 2) := by decide +kernel
theorem dX0_seek_48 : decode cX0_seek 48 = .ok (.iload 6, 2) := by decide +kernel
theorem dX0_seek_50 : decode cX0_seek 50 = .ok (.aload_n 0, 1) := by decide +kernel
theorem dX0_seek_51 : decode cX0_seek 51 = .ok (.getfield 35, 3) := by decide +kernel
theorem dX0_seek_54 : decode cX0_seek 54 = .ok (.if_icmp .ge 36, 3) := by decide +kernel
theorem dX0_seek_57 : decode cX0_seek 57 = .ok (.aload_n 0, 1) := by decide +kernel
theorem dX0_seek_58 : decode cX0_seek 58 = .ok (.getfield 15, 3) := by decide +kernel
theorem dX0_seek_61 : decode cX0_seek 61 = .ok (.iload_n 1, 1) := by decide +kernel
theorem dX0_seek_62 : decode cX0_seek 62 = .ok (.iload 5, 2) := by decide +kernel
theorem dX0_seek_64 : decode cX0_seek 64 = .ok (.iastore, 1) := by decide +kernel
theorem dX0_seek_65 : decode cX0_seek 65 = .ok (.aload_n 0, 1) := by decide +kernel
theorem dX0_seek_66 : decode cX0_seek 66 = .ok (.iload_n 1, 1) := by decide +kernel
theorem dX0_seek_67 : decode cX0_seek 67 = .ok (.iconst 1, 1) := by decide +kernel
theorem dX0_seek_68 : decode cX0_seek 68 = .ok (.iadd, 1) := by decide +kernel
theorem dX0_seek_69 : decode cX0_seek 69 = .ok (.aload_n 0, 1) := by decide +kernel
theorem dX0_seek_70 : decode cX0_seek 70 = .ok (.getfield 18, 3) := by decide +kernel
theorem dX0_seek_73 : decode cX0_seek 73 = .ok (.iload 5, 2) := by decide +kernel
theorem dX0_seek_75 : decode cX0_seek 75 = .ok (.iaload, 1) := by decide +kernel
theorem dX0_seek_76 : decode cX0_seek 76 = .ok (.iload 6, 2) := by decide +kernel
theorem dX0_seek_78 : decode cX0_seek 78 = .ok (.iload 4, 2) := by decide +kernel
theorem dX0_seek_80 : decode cX0_seek 80 = .ok (.iconst 1, 1) := by decide +kernel
theorem dX0_seek_81 : decode cX0_seek 81 = .ok (.iload 5, 2) := by decide +kernel
theorem dX0_seek_83 : decode cX0_seek 83 = .ok (.ishl, 1) := by decide +kernel
theorem dX0_seek_84 : decode cX0_seek 84 = .ok (.iconst (-1), 1) := by decide +kernel
theorem dX0_seek_85 : decode cX0_seek 85 = .ok (.ixor, 1) := by decide +kernel
theorem dX0_seek_86 : decode cX0_seek 86 = .ok (.iand, 1) := by decide +kernel
theorem dX0_seek_87 : decode cX0_seek 87 = .ok (.invokevirtual 42, 3) := by decide +kernel
theorem dX0_seek_90 : decode cX0_seek 90 = .ok (.iinc 5 1, 3) := by decide +kernel
theorem dX0_seek_93 : decode cX0_seek 93 = .ok (.goto (-72), 3) := by decide +kernel
theorem dX0_seek_96 : decode cX0_seek 96 = .ok (.return_, 1) := by decide +kernel
theorem dX0_walk_0 : decode cX0_walk 0 = .ok (.iconst 0, 1) := by decide +kernel
theorem dX0_walk_1 : decode cX0_walk 1 = .ok (.istore_n 3, 1) := by decide +kernel
theorem dX0_walk_2 : decode cX0_walk 2 = .ok (.iload_n 1, 1) := by decide +kernel
theorem dX0_walk_3 : decode cX0_walk 3 = .ok (.istore 4, 2) := by decide +kernel
theorem dX0_walk_5 : decode cX0_walk 5 = .ok (.iconst 0, 1) := by decide +kernel
theorem dX0_walk_6 : decode cX0_walk 6 = .ok (.istore 5, 2) := by decide +kernel
theorem dX0_walk_8 : decode cX0_walk 8 = .ok (.iload 5, 2) := by decide +kernel
theorem dX0_walk_10 : decode cX0_walk 10 = .ok (.aload_n 2, 1) := by decide +kernel
theorem dX0_walk_11 : decode cX0_walk 11 = .ok (.getfield 70, 3) := by decide +kernel
theorem dX0_walk_14 : decode cX0_walk 14 = .ok (.if_icmp .ge 55, 3) := by decide +kernel
theorem dX0_walk_17 : decode cX0_walk 17 = .ok (.aload_n 2, 1) := by decide +kernel
theorem dX0_walk_18 : decode cX0_walk 18 = .ok (.getfield 73, 3) := by decide +kernel
theorem dX0_walk_21 : decode cX0_walk 21 = .ok (.iload 5, 2) := by decide +kernel
theorem dX0_walk_23 : decode cX0_walk 23 = .ok (.laload, 1) := by decide +kernel
theorem dX0_walk_24 : decode cX0_walk 24 = .ok (.lstore 6, 2) := by decide +kernel
theorem dX0_walk_26 : decode cX0_walk 26 = .ok (.lload 6, 2) := by decide +kernel
theorem dX0_walk_28 : decode cX0_walk 28 = .ok (.lconst 0, 1) := by decide +kernel
theorem dX0_walk_29 : decode cX0_walk 29 = .ok (.lcmp, 1) := by decide +kernel
theorem dX0_walk_30 : decode cX0_walk 30 = .ok (.ifCond .lt 33, 3) := by decide +kernel
theorem dX0_walk_33 : decode cX0_walk 33 = .ok (.lload 6, 2) := by decide +kernel
theorem dX0_walk_35 : decode cX0_walk 35 = .ok (.ldc2_w 77, 3) := by decide +kernel
theorem dX0_walk_38 : decode cX0_walk 38 = .ok (.lcmp, 1) := by decide +kernel
theorem dX0_walk_39 : decode cX0_walk 39 = .ok (.ifCond .ge 24, 3) := by decide +kernel
theorem dX0_walk_42 : decode cX0_walk 42 = .ok (.aload_n 0, 1) := by decide +kernel
theorem dX0_walk_43 : decode cX0_walk 43 = .ok (.lload 6, 2) := by decide +kernel
theorem dX0_walk_45 : decode cX0_walk 45 = .ok (.l2i, 1) := by decide +kernel
theorem dX0_walk_46 : decode cX0_walk 46 = .ok (.iload 4, 2) := by decide +kernel
theorem dX0_walk_48 : decode cX0_walk 48 = .ok (.iload_n 3, 1) := by decide +kernel
theorem dX0_walk_49 : decode cX0_walk 49 = .ok (.invokevirtual 56, 3) := by decide +kernel
theorem dX0_walk_52 : decode cX0_walk 52 = .ok (.istore_n 3, 1) := by decide +kernel
theorem dX0_walk_53 : decode cX0_walk 53 = .ok (.aload_n 0, 1) := by decide +kernel
theorem dX0_walk_54 : decode cX0_walk 54 = .ok (.getfield 18, 3) := by decide +kernel
theorem dX0_walk_57 : decode cX0_walk 57 = .ok (.lload 6, 2) := by decide +kernel
theorem dX0_walk_59 : decode cX0_walk 59 = .ok (.l2i, 1) := by decide +kernel
theorem dX0_walk_60 : decode cX0_walk 60 = .ok (.iaload, 1) := by decide +kernel
theorem dX0_walk_61 : decode cX0_walk 61 = .ok (.istore 4, 2) := by decide +kernel
theorem dX0_walk_63 : decode cX0_walk 63 = .ok (.iinc 5 1, 3) := by decide +kernel
theorem dX0_walk_66 : decode cX0_walk 66 = .ok (.goto (-58), 3) := by decide +kernel
theorem dX0_walk_69 : decode cX0_walk 69 = .ok (.iload_n 3, 1) := by decide +kernel
theorem dX0_walk_70 : decode cX0_walk 70 = .ok (.sipush 10000, 3) := by decide +kernel
theorem dX0_walk_73 : decode cX0_walk 73 = .ok (.invokestatic 79, 3) := by decide +kernel
theorem dX0_walk_76 : decode cX0_walk 76 = .ok (.ireturn, 1) := by decide +kernel
theorem dX1_apply_0 : decode cX1_apply 0 = .ok (.iconst 0, 1) := by decide +kernel
theorem dX1_apply_1 : decode cX1_apply 1 = .ok (.istore 4, 2) := by decide +kernel
theorem dX1_apply_3 : decode cX1_apply 3 = .ok (.iload_n 2, 1) := by decide +kernel
theorem dX1_apply_4 : decode cX1_apply 4 = .ok (.istore 5, 2) := by decide +kernel
theorem dX1_apply_6 : decode cX1_apply 6 = .ok (.iload 5, 2) := by decide +kernel
theorem dX1_apply_8 : decode cX1_apply 8 = .ok (.aload_n 0, 1) := by decide +kernel
theorem dX1_apply_9 : decode cX1_apply 9 = .ok (.getfield 46, 3) := by decide +kernel
theorem dX1_apply_12 : decode cX1_apply 12 = .ok (.if_icmp .ge 105, 3) := by decide +kernel
theorem dX1_apply_15 : decode cX1_apply 15 = .ok (.aload_n 0, 1) := by decide +kernel
theorem dX1_apply_16 : decode cX1_apply 16 = .ok (.getfield 20, 3) := by decide +kernel
theorem dX1_apply_19 : decode cX1_apply 19 = .ok (.iload_n 1, 1) := by decide +kernel
theorem dX1_apply_20 : decode cX1_apply 20 = .ok (.bipush 7, 2) := by decide +kernel
theorem dX1_apply_22 : decode cX1_apply 22 = .ok (.imul, 1) := by decide +kernel
theorem dX1_apply_23 : decode cX1_apply 23 = .ok (.iload 5, 2) := by decide +kernel
theorem dX1_apply_25 : decode cX1_apply 25 = .ok (.iadd, 1) := by decide +kernel
theorem dX1_apply_26 : decode cX1_apply 26 = .ok (.aaload, 1) := by decide +kernel
theorem dX1_apply_27 : decode cX1_apply 27 = .ok (.astore 6, 2) := by decide +kernel
theorem dX1_apply_29 : decode cX1_apply 29 = .ok (.aload_n 0, 1) := by decide +kernel
theorem dX1_apply_30 : decode cX1_apply 30 = .ok (.getfield 20, 3) := by decide +kernel
theorem dX1_apply_33 : decode cX1_apply 33 = .ok (.iload_n 1, 1) := by decide +kernel
theorem dX1_apply_34 : decode cX1_apply 34 = .ok (.iconst 1, 1) := by decide +kernel
theorem dX1_apply_35 : decode cX1_apply 35 = .ok (.iadd, 1) := by decide +kernel
theorem dX1_apply_36 : decode cX1_apply 36 = .ok (.bipush 7, 2) := by decide +kernel
theorem dX1_apply_38 : decode cX1_apply 38 = .ok (.imul, 1) := by decide +kernel
theorem dX1_apply_39 : decode cX1_apply 39 = .ok (.iload 5, 2) := by decide +kernel
theorem dX1_apply_41 : decode cX1_apply 41 = .ok (.iadd, 1) := by decide +kernel
theorem dX1_apply_42 : decode cX1_apply 42 = .ok (.aaload, 1) := by decide +kernel
theorem dX1_apply_43 : decode cX1_apply 43 = .ok (.astore 7, 2) := by decide +kernel
theorem dX1_apply_45 : decode cX1_apply 45 = .ok (.aload 6, 2) := by decide +kernel
theorem dX1_apply_47 : decode cX1_apply 47 = .ok (.iconst 0, 1) := by decide +kernel
theorem dX1_apply_48 : decode cX1_apply 48 = .ok (.aload 7, 2) := by decide +kernel
theorem dX1_apply_50 : decode cX1_apply 50 = .ok (.iconst 0, 1) := by decide +kernel
theorem dX1_apply_51 : decode cX1_apply 51 = .ok (.bipush 6, 2) := by decide +kernel
theorem dX1_apply_53 : decode cX1_apply 53 = .ok (.invokestatic 80, 3) := by decide +kernel
theorem dX1_apply_56 : decode cX1_apply 56 = .ok (.aload 7, 2) := by decide +kernel
theorem dX1_apply_58 : decode cX1_apply 58 = .ok (.iload_n 3, 1) := by decide +kernel
theorem dX1_apply_59 : decode cX1_apply 59 = .ok (.aload_n 0, 1) := by decide +kernel
theorem dX1_apply_60 : decode cX1_apply 60 = .ok (.getfield 17, 3) := by decide +kernel
theorem dX1_apply_63 : decode cX1_apply 63 = .ok (.iload_n 2, 1) := by decide +kernel
theorem dX1_apply_64 : decode cX1_apply 64 = .ok (.bipush 7, 2) := by decide +kernel
theorem dX1_apply_66 : decode cX1_apply 66 = .ok (.imul, 1) := by decide +kernel
theorem dX1_apply_67 : decode cX1_apply 67 = .ok (.iload 5, 2) := by decide +kernel
theorem dX1_apply_69 : decode cX1_apply 69 = .ok (.iadd, 1) := by decide +kernel
theorem dX1_apply_70 : decode cX1_apply 70 = .ok (.aaload, 1) := by decide +kernel
theorem dX1_apply_71 : decode cX1_apply 71 = .ok (.iload_n 3, 1) := by decide +kernel
theorem dX1_apply_72 : decode cX1_apply 72 = .ok (.iaload, 1) := by decide +kernel
theorem dX1_apply_73 : decode cX1_apply 73 = .ok (.iastore, 1) := by decide +kernel
theorem dX1_apply_74 : decode cX1_apply 74 = .ok (.iload 4, 2) := by decide +kernel
theorem dX1_apply_76 : decode cX1_apply 76 = .ok (.ifCond .ne 28, 3) := by decide +kernel
theorem dX1_apply_79 : decode cX1_apply 79 = .ok (.aload_n 0, 1) := by decide +kernel
theorem dX1_apply_80 : decode cX1_apply 80 = .ok (.getfield 9, 3) := by decide +kernel
theorem dX1_apply_83 : decode cX1_apply 83 = .ok (.iload 5, 2) := by decide +kernel
theorem dX1_apply_85 : decode cX1_apply 85 = .ok (.iaload, 1) := by decide +kernel
theorem dX1_apply_86 : decode cX1_apply 86 = .ok (.iload_n 3, 1) := by decide +kernel
theorem dX1_apply_87 : decode cX1_apply 87 = .ok (.invokestatic 105, 3) := by decide +kernel
theorem dX1_apply_90 : decode cX1_apply 90 = .ok (.ifCond .eq 18, 3) := by decide +kernel
theorem dX1_apply_93 : decode cX1_apply 93 = .ok (.aload 7, 2) := by decide +kernel
theorem dX1_apply_95 : decode cX1_apply 95 = .ok (.iload_n 3, 1) := by decide +kernel
theorem dX1_apply_96 : decode cX1_apply 96 = .ok (.iaload, 1) := by decide +kernel
theorem dX1_apply_97 : decode cX1_apply 97 = .ok (.aload 6, 2) := by decide +kernel
theorem dX1_apply_99 : decode cX1_apply 99 = .ok (.iload_n 3, 1) := by decide +kernel
theorem dX1_apply_100 : decode cX1_apply 100 = .ok (.iaload, 1) := by decide +kernel
theorem dX1_apply_101 : decode cX1_apply 101 = .ok (.if_icmp .eq 7, 3) := by decide +kernel
theorem dX1_apply_104 : decode cX1_apply 104 = .ok (.iconst 1, 1) := by decide +kernel
theorem dX1_apply_105 : decode cX1_apply 105 = .ok (.goto 4, 3) := by decide +kernel
theorem dX1_apply_108 : decode cX1_apply 108 = .ok (.iconst 0, 1) := by decide +kernel
theorem dX1_apply_109 : decode cX1_apply 109 = .ok (.istore 4, 2) := by decide +kernel
theorem dX1_apply_111 : decode cX1_apply 111 = .ok (.iinc 5 1, 3) := by decide +kernel
theorem dX1_apply_114 : decode cX1_apply 114 = .ok (.goto (-108), 3) := by decide +kernel
theorem dX1_apply_117 : decode cX1_apply 117 = .ok (.iload 4, 2) := by decide +kernel
theorem dX1_apply_119 : decode cX1_apply 119 = .ok (.ireturn, 1) := by decide +kernel
theorem dX1_init_0 : decode cX1_init 0 = .ok (.aload_n 0, 1) := by decide +kernel
theorem dX1_init_1 : decode cX1_init 1 = .ok (.invokespecial 3, 3) := by decide +kernel
theorem dX1_init_4 : decode cX1_init 4 = .ok (.aload_n 0, 1) := by decide +kernel
theorem dX1_init_5 : decode cX1_init 5 = .ok (.bipush 7, 2) := by decide +kernel
theorem dX1_init_7 : decode cX1_init 7 = .ok (.newarray .int, 2) := by decide +kernel
theorem dX1_init_9 : decode cX1_init 9 = .ok (.putfield 9, 3) := by decide +kernel
theorem dX1_init_12 : decode cX1_init 12 = .ok (.aload_n 0, 1) := by decide +kernel
theorem dX1_init_13 : decode cX1_init 13 = .ok (.bipush 49, 2) := by decide +kernel
theorem dX1_init_15 : decode cX1_init 15 = .ok (.bipush 6, 2) := by decide +kernel
theorem dX1_init_17 : decode cX1_init 17 = .ok (.multianewarray 15 2, 4) := by decide +kernel
theorem dX1_init_21 : decode cX1_init 21 = .ok (.putfield 17, 3) := by decide +kernel
theorem dX1_init_24 : decode cX1_init 24 = .ok (.aload_n 0, 1) := by decide +kernel
theorem dX1_init_25 : decode cX1_init 25 = .ok (.bipush 21, 2) := by decide +kernel
theorem dX1_init_27 : decode cX1_init 27 = .ok (.bipush 6, 2) := by decide +kernel
theorem dX1_init_29 : decode cX1_init 29 = .ok (.multianewarray 15 2, 4) := by decide +kernel
theorem dX1_init_33 : decode cX1_init 33 = .ok (.putfield 20, 3) := by decide +kernel
theorem dX1_init_36 : decode cX1_init 36 = .ok (.aload_n 0, 1) := by decide +kernel
theorem dX1_init_37 : decode cX1_init 37 = .ok (.bipush 7, 2) := by decide +kernel
theorem dX1_init_39 : decode cX1_init 39 = .ok (.newarray .int, 2) := by decide +kernel
theorem dX1_init_41 : decode cX1_init 41 = .ok (.putfield 23, 3) := by decide +kernel
theorem dX1_init_44 : decode cX1_init 44 = .ok (.aload_n 0, 1) := by decide +kernel
theorem dX1_init_45 : decode cX1_init 45 = .ok (.bipush 7, 2) := by decide +kernel
theorem dX1_init_47 : decode cX1_init 47 = .ok (.newarray .int, 2) := by decide +kernel
theorem dX1_init_49 : decode cX1_init 49 = .ok (.putfield 26, 3) := by decide +kernel
theorem dX1_init_52 : decode cX1_init 52 = .ok (.aload_n 0, 1) := by decide +kernel
theorem dX1_init_53 : decode cX1_init 53 = .ok (.bipush 7, 2) := by decide +kernel
theorem dX1_init_55 : decode cX1_init 55 = .ok (.newarray .int, 2) := by decide +kernel
theorem dX1_init_57 : decode cX1_init 57 = .ok (.putfield 29, 3) := by decide +kernel
theorem dX1_init_60 : decode cX1_init 60 = .ok (.aload_n 0, 1) := by decide +kernel
theorem dX1_init_61 : decode cX1_init 61 = .ok (.bipush 7, 2) := by decide +kernel
theorem dX1_init_63 : decode cX1_init 63 = .ok (.newarray .int, 2) := by decide +kernel
theorem dX1_init_65 : decode cX1_init 65 = .ok (.putfield 32, 3) := by decide +kernel
theorem dX1_init_68 : decode cX1_init 68 = .ok (.return_, 1) := by decide +kernel
theorem dX1_keep_0 : decode cX1_keep 0 = .ok (.iload_n 2, 1) := by decide +kernel
theorem dX1_keep_1 : decode cX1_keep 1 = .ok (.aload_n 0, 1) := by decide +kernel
theorem dX1_keep_2 : decode cX1_keep 2 = .ok (.getfield 43, 3) := by decide +kernel
theorem dX1_keep_5 : decode cX1_keep 5 = .ok (.if_icmp .ge 21, 3) := by decide +kernel
theorem dX1_keep_8 : decode cX1_keep 8 = .ok (.aload_n 0, 1) := by decide +kernel
theorem dX1_keep_9 : decode cX1_keep 9 = .ok (.iload_n 2, 1) := by decide +kernel
theorem dX1_keep_10 : decode cX1_keep 10 = .ok (.putfield 43, 3) := by decide +kernel
theorem dX1_keep_13 : decode cX1_keep 13 = .ok (.aload_n 0, 1) := by decide +kernel
theorem dX1_keep_14 : decode cX1_keep 14 = .ok (.iload_n 1, 1) := by decide +kernel
theorem dX1_keep_15 : decode cX1_keep 15 = .ok (.putfield 53, 3) := by decide +kernel
theorem dX1_keep_18 : decode cX1_keep 18 = .ok (.aload_n 0, 1) := by decide +kernel
theorem dX1_keep_19 : decode cX1_keep 19 = .ok (.aload_n 0, 1) := by decide +kernel
theorem dX1_keep_20 : decode cX1_keep 20 = .ok (.getfield 98, 3) := by decide +kernel
theorem dX1_keep_23 : decode cX1_keep 23 = .ok (.putfield 56, 3) := by decide +kernel
theorem dX1_keep_26 : decode cX1_keep 26 = .ok (.return_, 1) := by decide +kernel
theorem dX1_look_0 : decode cX1_look 0 = .ok (.iconst 0, 1) := by decide +kernel
theorem dX1_look_1 : decode cX1_look 1 = .ok (.istore_n 3, 1) := by decide +kernel
theorem dX1_look_2 : decode cX1_look 2 = .ok (.aload_n 0, 1) := by decide +kernel
theorem dX1_look_3 : decode cX1_look 3 = .ok (.getfield 46, 3) := by decide +kernel
theorem dX1_look_6 : decode cX1_look 6 = .ok (.iconst 1, 1) := by decide +kernel
theorem dX1_look_7 : decode cX1_look 7 = .ok (.isub, 1) := by decide +kernel
theorem dX1_look_8 : decode cX1_look 8 = .ok (.istore 4, 2) := by decide +kernel
theorem dX1_look_10 : decode cX1_look 10 = .ok (.iload 4, 2) := by decide +kernel
theorem dX1_look_12 : decode cX1_look 12 = .ok (.iload_n 2, 1) := by decide +kernel
theorem dX1_look_13 : decode cX1_look 13 = .ok (.if_icmp .lt 172, 3) := by decide +kernel
theorem dX1_look_16 : decode cX1_look 16 = .ok (.aload_n 0, 1) := by decide +kernel
theorem dX1_look_17 : decode cX1_look 17 = .ok (.getfield 20, 3) := by decide +kernel
theorem dX1_look_20 : decode cX1_look 20 = .ok (.iload_n 1, 1) := by decide +kernel
theorem dX1_look_21 : decode cX1_look 21 = .ok (.bipush 7, 2) := by decide +kernel
theorem dX1_look_23 : decode cX1_look 23 = .ok (.imul, 1) := by decide +kernel
theorem dX1_look_24 : decode cX1_look 24 = .ok (.iload 4, 2) := by decide +kernel
theorem dX1_look_26 : decode cX1_look 26 = .ok (.iadd, 1) := by decide +kernel
theorem dX1_look_27 : decode cX1_look 27 = .ok (.aaload, 1) := by decide +kernel
theorem dX1_look_28 : decode cX1_look 28 = .ok (.astore 5, 2) := by decide +kernel
theorem dX1_look_30 : decode cX1_look 30 = .ok (.aload_n 0, 1) := by decide +kernel
theorem dX1_look_31 : decode cX1_look 31 = .ok (.getfield 23, 3) := by decide +kernel
theorem dX1_look_34 : decode cX1_look 34 = .ok (.iload 4, 2) := by decide +kernel
theorem dX1_look_36 : decode cX1_look 36 = .ok (.aload 5, 2) := by decide +kernel
theorem dX1_look_38 : decode cX1_look 38 = .ok (.aload_n 0, 1) := by decide +kernel
theorem dX1_look_39 : decode cX1_look 39 = .ok (.getfield 9, 3) := by decide +kernel
theorem dX1_look_42 : decode cX1_look 42 = .ok (.iload 4, 2) := by decide +kernel
theorem dX1_look_44 : decode cX1_look 44 = .ok (.iaload, 1) := by decide +kernel
theorem dX1_look_45 : decode cX1_look 45 = .ok (.invokestatic 119, 3) := by decide +kernel
theorem dX1_look_48 : decode cX1_look 48 = .ok (.iastore, 1) := by decide +kernel
theorem dX1_look_49 : decode cX1_look 49 = .ok (.aload_n 0, 1) := by decide +kernel
theorem dX1_look_50 : decode cX1_look 50 = .ok (.getfield 26, 3) := by decide +kernel
theorem dX1_look_53 : decode cX1_look 53 = .ok (.iload 4, 2) := by decide +kernel
theorem dX1_look_55 : decode cX1_look 55 = .ok (.aload_n 0, 1) := by decide +kernel
theorem dX1_look_56 : decode cX1_look 56 = .ok (.getfield 23, 3) := by decide +kernel
theorem dX1_look_59 : decode cX1_look 59 = .ok (.iload 4, 2) := by decide +kernel
theorem dX1_look_61 : decode cX1_look 61 = .ok (.iaload, 1) := by decide +kernel
theorem dX1_look_62 : decode cX1_look 62 = .ok (.iconst (-1), 1) := by decide +kernel
theorem dX1_look_63 : decode cX1_look 63 = .ok (.if_icmp .ne 7, 3) := by decide +kernel
theorem dX1_look_66 : decode cX1_look 66 = .ok (.iconst 0, 1) := by decide +kernel
theorem dX1_look_67 : decode cX1_look 67 = .ok (.goto 13, 3) := by decide +kernel
theorem dX1_look_70 : decode cX1_look 70 = .ok (.aload 5, 2) := by decide +kernel
theorem dX1_look_72 : decode cX1_look 72 = .ok (.aload_n 0, 1) := by decide +kernel
theorem dX1_look_73 : decode cX1_look 73 = .ok (.getfield 23, 3) := by decide +kernel
theorem dX1_look_76 : decode cX1_look 76 = .ok (.iload 4, 2) := by decide +kernel
theorem dX1_look_78 : decode cX1_look 78 = .ok (.iaload, 1) := by decide +kernel
theorem dX1_look_79 : decode cX1_look 79 = .ok (.iaload, 1) := by decide +kernel
theorem dX1_look_80 : decode cX1_look 80 = .ok (.iastore, 1) := by decide +kernel
theorem dX1_look_81 : decode cX1_look 81 = .ok (.aload_n 0, 1) := by decide +kernel
theorem dX1_look_82 : decode cX1_look 82 = .ok (.getfield 23, 3) := by decide +kernel
theorem dX1_look_85 : decode cX1_look 85 = .ok (.iload 4, 2) := by decide +kernel
theorem dX1_look_87 : decode cX1_look 87 = .ok (.iaload, 1) := by decide +kernel
theorem dX1_look_88 : decode cX1_look 88 = .ok (.iconst (-1), 1) := by decide +kernel
theorem dX1_look_89 : decode cX1_look 89 = .ok (.if_icmp .ne 7, 3) := by decide +kernel
theorem dX1_look_92 : decode cX1_look 92 = .ok (.iconst 0, 1) := by decide +kernel
theorem dX1_look_93 : decode cX1_look 93 = .ok (.goto 22, 3) := by decide +kernel
theorem dX1_look_96 : decode cX1_look 96 = .ok (.aload_n 0, 1) := by decide +kernel
theorem dX1_look_97 : decode cX1_look 97 = .ok (.getfield 9, 3) := by decide +kernel
theorem dX1_look_100 : decode cX1_look 100 = .ok (.iload 4, 2) := by decide +kernel
theorem dX1_look_102 : decode cX1_look 102 = .ok (.iaload, 1) := by decide +kernel
theorem dX1_look_103 : decode cX1_look 103 = .ok (.iconst 1, 1) := by decide +kernel
theorem dX1_look_104 : decode cX1_look 104 = .ok (.aload_n 0, 1) := by decide +kernel
theorem dX1_look_105 : decode cX1_look 105 = .ok (.getfield 23, 3) := by decide +kernel
theorem dX1_look_108 : decode cX1_look 108 = .ok (.iload 4, 2) := by decide +kernel
theorem dX1_look_110 : decode cX1_look 110 = .ok (.iaload, 1) := by decide +kernel
theorem dX1_look_111 : decode cX1_look 111 = .ok (.ishl, 1) := by decide +kernel
theorem dX1_look_112 : decode cX1_look 112 = .ok (.iconst (-1), 1) := by decide +kernel
theorem dX1_look_113 : decode cX1_look 113 = .ok (.ixor, 1) := by decide +kernel
theorem dX1_look_114 : decode cX1_look 114 = .ok (.iand, 1) := by decide +kernel
theorem dX1_look_115 : decode cX1_look 115 = .ok (.istore 6, 2) := by decide +kernel
theorem dX1_look_117 : decode cX1_look 117 = .ok (.aload_n 0, 1) := by decide +kernel
theorem dX1_look_118 : decode cX1_look 118 = .ok (.getfield 29, 3) := by decide +kernel
theorem dX1_look_121 : decode cX1_look 121 = .ok (.iload 4, 2) := by decide +kernel
theorem dX1_look_123 : decode cX1_look 123 = .ok (.aload 5, 2) := by decide +kernel
theorem dX1_look_125 : decode cX1_look 125 = .ok (.iload 6, 2) := by decide +kernel
theorem dX1_look_127 : decode cX1_look 127 = .ok (.invokestatic 123, 3) := by decide +kernel
theorem dX1_look_130 : decode cX1_look 130 = .ok (.iastore, 1) := by decide +kernel
theorem dX1_look_131 : decode cX1_look 131 = .ok (.aload_n 0, 1) := by decide +kernel
theorem dX1_look_132 : decode cX1_look 132 = .ok (.getfield 23, 3) := by decide +kernel
theorem dX1_look_135 : decode cX1_look 135 = .ok (.iload 4, 2) := by decide +kernel
theorem dX1_look_137 : decode cX1_look 137 = .ok (.iaload, 1) := by decide +kernel
theorem dX1_look_138 : decode cX1_look 138 = .ok (.iconst (-1), 1) := by decide +kernel
theorem dX1_look_139 : decode cX1_look 139 = .ok (.if_icmp .eq 32, 3) := by decide +kernel
theorem dX1_look_142 : decode cX1_look 142 = .ok (.aload_n 0, 1) := by decide +kernel
theorem dX1_look_143 : decode cX1_look 143 = .ok (.getfield 29, 3) := by decide +kernel
theorem dX1_look_146 : decode cX1_look 146 = .ok (.iload 4, 2) := by decide +kernel
theorem dX1_look_148 : decode cX1_look 148 = .ok (.iaload, 1) := by decide +kernel
theorem dX1_look_149 : decode cX1_look 149 = .ok (.aload_n 0, 1) := by decide +kernel
theorem dX1_look_150 : decode cX1_look 150 = .ok (.getfield 26, 3) := by decide +kernel
theorem dX1_look_153 : decode cX1_look 153 = .ok (.iload 4, 2) := by decide +kernel
theorem dX1_look_155 : decode cX1_look 155 = .ok (.iaload, 1) := by decide +kernel
theorem dX1_look_156 : decode cX1_look 156 = .ok (.if_icmp .ge 15, 3) := by decide +kernel
theorem dX1_look_159 : decode cX1_look 159 = .ok (.iload_n 3, 1) := by decide +kernel
theorem dX1_look_160 : decode cX1_look 160 = .ok (.iconst 1, 1) := by decide +kernel
theorem dX1_look_161 : decode cX1_look 161 = .ok (.aload_n 0, 1) := by decide +kernel
theorem dX1_look_162 : decode cX1_look 162 = .ok (.getfield 23, 3) := by decide +kernel
theorem dX1_look_165 : decode cX1_look 165 = .ok (.iload 4, 2) := by decide +kernel
theorem dX1_look_167 : decode cX1_look 167 = .ok (.iaload, 1) := by decide +kernel
theorem dX1_look_168 : decode cX1_look 168 = .ok (.ishl, 1) := by decide +kernel
theorem dX1_look_169 : decode cX1_look 169 = .ok (.ior, 1) := by decide +kernel
theorem dX1_look_170 : decode cX1_look 170 = .ok (.istore_n 3, 1) := by decide +kernel
theorem dX1_look_171 : decode cX1_look 171 = .ok (.aload_n 0, 1) := by decide +kernel
theorem dX1_look_172 : decode cX1_look 172 = .ok (.getfield 32, 3) := by decide +kernel
theorem dX1_look_175 : decode cX1_look 175 = .ok (.iload 4, 2) := by decide +kernel
theorem dX1_look_177 : decode cX1_look 177 = .ok (.iload_n 3, 1) := by decide +kernel
theorem dX1_look_178 : decode cX1_look 178 = .ok (.iastore, 1) := by decide +kernel
theorem dX1_look_179 : decode cX1_look 179 = .ok (.iinc 4 (-1), 3) := by decide +kernel
theorem dX1_look_182 : decode cX1_look 182 = .ok (.goto (-172), 3) := by decide +kernel
theorem dX1_look_185 : decode cX1_look 185 = .ok (.return_, 1) := by decide +kernel
theorem dX1_prepare_0 : decode cX1_prepare 0 = .ok (.aload_n 0, 1) := by decide +kernel
theorem dX1_prepare_1 : decode cX1_prepare 1 = .ok (.aload_n 2, 1) := by decide +kernel
theorem dX1_prepare_2 : decode cX1_prepare 2 = .ok (.getfield 63, 3) := by decide +kernel
theorem dX1_prepare_5 : decode cX1_prepare 5 = .ok (.putfield 46, 3) := by decide +kernel
theorem dX1_prepare_8 : decode cX1_prepare 8 = .ok (.aload_n 0, 1) := by decide +kernel
theorem dX1_prepare_9 : decode cX1_prepare 9 = .ok (.aload_n 2, 1) := by decide +kernel
theorem dX1_prepare_10 : decode cX1_prepare 10 = .ok (.getfield 66, 3) := by decide +kernel
theorem dX1_prepare_13 : decode cX1_prepare 13 = .ok (.putfield 69, 3) := by decide +kernel
theorem dX1_prepare_16 : decode cX1_prepare 16 = .ok (.aload_n 0, 1) := by decide +kernel
theorem dX1_prepare_17 : decode cX1_prepare 17 = .ok (.aload_n 1, 1) := by decide +kernel
theorem dX1_prepare_18 : decode cX1_prepare 18 = .ok (.getfield 70, 3) := by decide +kernel
theorem dX1_prepare_21 : decode cX1_prepare 21 = .ok (.putfield 75, 3) := by decide +kernel
theorem dX1_prepare_24 : decode cX1_prepare 24 = .ok (.iconst 0, 1) := by decide +kernel
theorem dX1_prepare_25 : decode cX1_prepare 25 = .ok (.istore_n 3, 1) := by decide +kernel
theorem dX1_prepare_26 : decode cX1_prepare 26 = .ok (.iload_n 3, 1) := by decide +kernel
theorem dX1_prepare_27 : decode cX1_prepare 27 = .ok (.aload_n 0, 1) := by decide +kernel
theorem dX1_prepare_28 : decode cX1_prepare 28 = .ok (.getfield 46, 3) := by decide +kernel
theorem dX1_prepare_31 : decode cX1_prepare 31 = .ok (.if_icmp .ge 73, 3) := by decide +kernel
theorem dX1_prepare_34 : decode cX1_prepare 34 = .ok (.aload_n 0, 1) := by decide +kernel
theorem dX1_prepare_35 : decode cX1_prepare 35 = .ok (.getfield 9, 3) := by decide +kernel
theorem dX1_prepare_38 : decode cX1_prepare 38 = .ok (.iload_n 3, 1) := by decide +kernel
theorem dX1_prepare_39 : decode cX1_prepare 39 = .ok (.aload_n 2, 1) := by decide +kernel
theorem dX1_prepare_40 : decode cX1_prepare 40 = .ok (.getfield 76, 3) := by decide +kernel
theorem dX1_prepare_43 : decode cX1_prepare 43 = .ok (.iload_n 3, 1) := by decide +kernel
theorem dX1_prepare_44 : decode cX1_prepare 44 = .ok (.iaload, 1) := by decide +kernel
theorem dX1_prepare_45 : decode cX1_prepare 45 = .ok (.iastore, 1) := by decide +kernel
theorem dX1_prepare_46 : decode cX1_prepare 46 = .ok (.aload_n 2, 1) := by decide +kernel
theorem dX1_prepare_47 : decode cX1_prepare 47 = .ok (.getfield 77, 3) := by decide +kernel
theorem dX1_prepare_50 : decode cX1_prepare 50 = .ok (.iload_n 3, 1) := by decide +kernel
theorem dX1_prepare_51 : decode cX1_prepare 51 = .ok (.aaload, 1) := by decide +kernel
theorem dX1_prepare_52 : decode cX1_prepare 52 = .ok (.iconst 0, 1) := by decide +kernel
theorem dX1_prepare_53 : decode cX1_prepare 53 = .ok (.aload_n 0, 1) := by decide +kernel
theorem dX1_prepare_54 : decode cX1_prepare 54 = .ok (.getfield 20, 3) := by decide +kernel
theorem dX1_prepare_57 : decode cX1_prepare 57 = .ok (.iload_n 3, 1) := by decide +kernel
theorem dX1_prepare_58 : decode cX1_prepare 58 = .ok (.aaload, 1) := by decide +kernel
theorem dX1_prepare_59 : decode cX1_prepare 59 = .ok (.iconst 0, 1) := by decide +kernel
theorem dX1_prepare_60 : decode cX1_prepare 60 = .ok (.bipush 6, 2) := by decide +kernel
theorem dX1_prepare_62 : decode cX1_prepare 62 = .ok (.invokestatic 80, 3) := by decide +kernel
theorem dX1_prepare_65 : decode cX1_prepare 65 = .ok (.iconst 0, 1) := by decide +kernel
theorem dX1_prepare_66 : decode cX1_prepare 66 = .ok (.istore 4, 2) := by decide +kernel
theorem dX1_prepare_68 : decode cX1_prepare 68 = .ok (.iload 4, 2) := by decide +kernel
theorem dX1_prepare_70 : decode cX1_prepare 70 = .ok (.aload_n 0, 1) := by decide +kernel
theorem dX1_prepare_71 : decode cX1_prepare 71 = .ok (.getfield 69, 3) := by decide +kernel
theorem dX1_prepare_74 : decode cX1_prepare 74 = .ok (.if_icmp .ge 24, 3) := by decide +kernel
theorem dX1_prepare_77 : decode cX1_prepare 77 = .ok (.aload_n 1, 1) := by decide +kernel
theorem dX1_prepare_78 : decode cX1_prepare 78 = .ok (.iload 4, 2) := by decide +kernel
theorem dX1_prepare_80 : decode cX1_prepare 80 = .ok (.iload_n 3, 1) := by decide +kernel
theorem dX1_prepare_81 : decode cX1_prepare 81 = .ok (.aload_n 0, 1) := by decide +kernel
theorem dX1_prepare_82 : decode cX1_prepare 82 = .ok (.getfield 17, 3) := by decide +kernel
theorem dX1_prepare_85 : decode cX1_prepare 85 = .ok (.iload_n 3, 1) := by decide +kernel
theorem dX1_prepare_86 : decode cX1_prepare 86 = .ok (.bipush 7, 2) := by decide +kernel
theorem dX1_prepare_88 : decode cX1_prepare 88 = .ok (.imul, 1) := by decide +kernel
theorem dX1_prepare_89 : decode cX1_prepare 89 = .ok (.invokestatic 86, 3) := by decide +kernel
theorem dX1_prepare_92 : decode cX1_prepare 92 = .ok (.iinc 4 1, 3) := by decide +kernel
theorem dX1_prepare_95 : decode cX1_prepare 95 = .ok (.goto (-27), 3) := by decide +kernel
theorem dX1_prepare_98 : decode cX1_prepare 98 = .ok (.iinc 3 1, 3) := by decide +kernel
theorem dX1_prepare_101 : decode cX1_prepare 101 = .ok (.goto (-75), 3) := by decide +kernel
theorem dX1_prepare_104 : decode cX1_prepare 104 = .ok (.return_, 1) := by decide +kernel
theorem dX1_search_0 : decode cX1_search 0 = .ok (.aload_n 0, 1) := by decide +kernel
theorem dX1_search_1 : decode cX1_search 1 = .ok (.aload_n 1, 1) := by decide +kernel
theorem dX1_search_2 : decode cX1_search 2 = .ok (.aload_n 2, 1) := by decide +kernel
theorem dX1_search_3 : decode cX1_search 3 = .ok (.invokevirtual 35, 3) := by decide +kernel
theorem dX1_search_6 : decode cX1_search 6 = .ok (.aload_n 0, 1) := by decide +kernel
theorem dX1_search_7 : decode cX1_search 7 = .ok (.iload 4, 2) := by decide +kernel
theorem dX1_search_9 : decode cX1_search 9 = .ok (.putfield 39, 3) := by decide +kernel
theorem dX1_search_12 : decode cX1_search 12 = .ok (.aload_n 0, 1) := by decide +kernel
theorem dX1_search_13 : decode cX1_search 13 = .ok (.iconst 0, 1) := by decide +kernel
theorem dX1_search_14 : decode cX1_search 14 = .ok (.putfield 43, 3) := by decide +kernel
theorem dX1_search_17 : decode cX1_search 17 = .ok (.iconst 0, 1) := by decide +kernel
theorem dX1_search_18 : decode cX1_search 18 = .ok (.istore 5, 2) := by decide +kernel
theorem dX1_search_20 : decode cX1_search 20 = .ok (.iload 5, 2) := by decide +kernel
theorem dX1_search_22 : decode cX1_search 22 = .ok (.aload_n 0, 1) := by decide +kernel
theorem dX1_search_23 : decode cX1_search 23 = .ok (.getfield 46, 3) := by decide +kernel
theorem dX1_search_26 : decode cX1_search 26 = .ok (.if_icmp .ge 25, 3) := by decide +kernel
theorem dX1_search_29 : decode cX1_search 29 = .ok (.aload_n 0, 1) := by decide +kernel
theorem dX1_search_30 : decode cX1_search 30 = .ok (.dup, 1) := by decide +kernel
theorem dX1_search_31 : decode cX1_search 31 = .ok (.getfield 43, 3) := by decide +kernel
theorem dX1_search_34 : decode cX1_search 34 = .ok (.aload_n 0, 1) := by decide +kernel
theorem dX1_search_35 : decode cX1_search 35 = .ok (.iconst 0, 1) := by decide +kernel
theorem dX1_search_36 : decode cX1_search 36 = .ok (.iload 5, 2) := by decide +kernel
theorem dX1_search_38 : decode cX1_search 38 = .ok (.invokevirtual 49, 3) := by decide +kernel
theorem dX1_search_41 : decode cX1_search 41 = .ok (.iadd, 1) := by decide +kernel
theorem dX1_search_42 : decode cX1_search 42 = .ok (.putfield 43, 3) := by decide +kernel
theorem dX1_search_45 : decode cX1_search 45 = .ok (.iinc 5 1, 3) := by decide +kernel
theorem dX1_search_48 : decode cX1_search 48 = .ok (.goto (-28), 3) := by decide +kernel
theorem dX1_search_51 : decode cX1_search 51 = .ok (.aload_n 0, 1) := by decide +kernel
theorem dX1_search_52 : decode cX1_search 52 = .ok (.iconst 0, 1) := by decide +kernel
theorem dX1_search_53 : decode cX1_search 53 = .ok (.putfield 53, 3) := by decide +kernel
theorem dX1_search_56 : decode cX1_search 56 = .ok (.aload_n 0, 1) := by decide +kernel
theorem dX1_search_57 : decode cX1_search 57 = .ok (.iconst (-1), 1) := by decide +kernel
theorem dX1_search_58 : decode cX1_search 58 = .ok (.putfield 56, 3) := by decide +kernel
theorem dX1_search_61 : decode cX1_search 61 = .ok (.iconst 1, 1) := by decide +kernel
theorem dX1_search_62 : decode cX1_search 62 = .ok (.istore 5, 2) := by decide +kernel
theorem dX1_search_64 : decode cX1_search 64 = .ok (.iload 5, 2) := by decide +kernel
theorem dX1_search_66 : decode cX1_search 66 = .ok (.iload_n 3, 1) := by decide +kernel
theorem dX1_search_67 : decode cX1_search 67 = .ok (.if_icmp .gt 25, 3) := by decide +kernel
theorem dX1_search_70 : decode cX1_search 70 = .ok (.aload_n 0, 1) := by decide +kernel
theorem dX1_search_71 : decode cX1_search 71 = .ok (.getfield 43, 3) := by decide +kernel
theorem dX1_search_74 : decode cX1_search 74 = .ok (.ifCond .le 18, 3) := by decide +kernel
theorem dX1_search_77 : decode cX1_search 77 = .ok (.aload_n 0, 1) := by decide +kernel
theorem dX1_search_78 : decode cX1_search 78 = .ok (.iconst 0, 1) := by decide +kernel
theorem dX1_search_79 : decode cX1_search 79 = .ok (.iload 5, 2) := by decide +kernel
theorem dX1_search_81 : decode cX1_search 81 = .ok (.iconst 0, 1) := by decide +kernel
theorem dX1_search_82 : decode cX1_search 82 = .ok (.iconst 0, 1) := by decide +kernel
theorem dX1_search_83 : decode cX1_search 83 = .ok (.invokevirtual 59, 3) := by decide +kernel
theorem dX1_search_86 : decode cX1_search 86 = .ok (.iinc 5 1, 3) := by decide +kernel
theorem dX1_search_89 : decode cX1_search 89 = .ok (.goto (-25), 3) := by decide +kernel
theorem dX1_search_92 : decode cX1_search 92 = .ok (.return_, 1) := by decide +kernel
theorem dX1_seek_0 : decode cX1_seek 0 = .ok (.iload_n 2, 1) := by decide +kernel
theorem dX1_seek_1 : decode cX1_seek 1 = .ok (.iconst 1, 1) := by decide +kernel
theorem dX1_seek_2 : decode cX1_seek 2 = .ok (.if_icmp .le 10, 3) := by decide +kernel
theorem dX1_seek_5 : decode cX1_seek 5 = .ok (.iload_n 1, 1) := by decide +kernel
theorem dX1_seek_6 : decode cX1_seek 6 = .ok (.iconst 1, 1) := by decide +kernel
theorem dX1_seek_7 : decode cX1_seek 7 = .ok (.iadd, 1) := by decide +kernel
theorem dX1_seek_8 : decode cX1_seek 8 = .ok (.iconst 3, 1) := by decide +kernel
theorem dX1_seek_9 : decode cX1_seek 9 = .ok (.if_icmp .lt 12, 3) := by decide +kernel
theorem dX1_seek_12 : decode cX1_seek 12 = .ok (.aload_n 0, 1) := by decide +kernel
theorem dX1_seek_13 : decode cX1_seek 13 = .ok (.iload_n 1, 1) := by decide +kernel
theorem dX1_seek_14 : decode cX1_seek 14 = .ok (.iload_n 3, 1) := by decide +kernel
theorem dX1_seek_15 : decode cX1_seek 15 = .ok (.iload 4, 2) := by decide +kernel
theorem dX1_seek_17 : decode cX1_seek 17 = .ok (.invokevirtual 90, 3) := by decide +kernel
theorem dX1_seek_20 : decode cX1_seek 20 = .ok (.return_, 1) := by decide +kernel
theorem dX1_seek_21 : decode cX1_seek 21 = .ok (.iload 4, 2) := by decide +kernel
theorem dX1_seek_23 : decode cX1_seek 23 = .ok (.istore 5, 2) := by decide +kernel
theorem dX1_seek_25 : decode cX1_seek 25 = .ok (.iload_n 3, 1) := by decide +kernel
theorem dX1_seek_26 : decode cX1_seek 26 = .ok (.bipush 10, 2) := by decide +kernel
theorem dX1_seek_28 : decode cX1_seek 28 = .ok (.idiv, 1) := by decide +kernel
theorem dX1_seek_29 : decode cX1_seek 29 = .ok (.istore 6, 2) := by decide +kernel
theorem dX1_seek_31 : decode cX1_seek 31 = .ok (.iload 6, 2) := by decide +kernel
theorem dX1_seek_33 : decode cX1_seek 33 = .ok (.aload_n 0, 1) := by decide +kernel
theorem dX1_seek_34 : decode cX1_seek 34 = .ok (.getfield 46, 3) := by decide +kernel
theorem dX1_seek_37 : decode cX1_seek 37 = .ok (.if_icmp .ge 109, 3) := by decide +kernel
theorem dX1_seek_40 : decode cX1_seek 40 = .ok (.iload 5, 2) := by decide +kernel
theorem dX1_seek_42 : decode cX1_seek 42 = .ok (.aload_n 0, 1) := by decide +kernel
theorem dX1_seek_43 : decode cX1_seek 43 = .ok (.getfield 43, 3) := by decide +kernel
theorem dX1_seek_46 : decode cX1_seek 46 = .ok (.if_icmp .ge 100, 3) := by decide +kernel
theorem dX1_seek_49 : decode cX1_seek 49 = .ok (.iconst 0, 1) := by decide +kernel
theorem dX1_seek_50 : decode cX1_seek 50 = .ok (.istore 7, 2) := by decide +kernel
theorem dX1_seek_52 : decode cX1_seek 52 = .ok (.iload 7, 2) := by decide +kernel
theorem dX1_seek_54 : decode cX1_seek 54 = .ok (.aload_n 0, 1) := by decide +kernel
theorem dX1_seek_55 : decode cX1_seek 55 = .ok (.getfield 69, 3) := by decide +kernel
theorem dX1_seek_58 : decode cX1_seek 58 = .ok (.if_icmp .ge 70, 3) := by decide +kernel
theorem dX1_seek_61 : decode cX1_seek 61 = .ok (.bipush 10, 2) := by decide +kernel
theorem dX1_seek_63 : decode cX1_seek 63 = .ok (.iload 6, 2) := by decide +kernel
theorem dX1_seek_65 : decode cX1_seek 65 = .ok (.imul, 1) := by decide +kernel
theorem dX1_seek_66 : decode cX1_seek 66 = .ok (.iload 7, 2) := by decide +kernel
theorem dX1_seek_68 : decode cX1_seek 68 = .ok (.iadd, 1) := by decide +kernel
theorem dX1_seek_69 : decode cX1_seek 69 = .ok (.istore 8, 2) := by decide +kernel
theorem dX1_seek_71 : decode cX1_seek 71 = .ok (.iload 8, 2) := by decide +kernel
theorem dX1_seek_73 : decode cX1_seek 73 = .ok (.iload_n 3, 1) := by decide +kernel
theorem dX1_seek_74 : decode cX1_seek 74 = .ok (.if_icmp .lt 48, 3) := by decide +kernel
theorem dX1_seek_77 : decode cX1_seek 77 = .ok (.aload_n 0, 1) := by decide +kernel
theorem dX1_seek_78 : decode cX1_seek 78 = .ok (.iload_n 1, 1) := by decide +kernel
theorem dX1_seek_79 : decode cX1_seek 79 = .ok (.iload 6, 2) := by decide +kernel
theorem dX1_seek_81 : decode cX1_seek 81 = .ok (.iload 7, 2) := by decide +kernel
theorem dX1_seek_83 : decode cX1_seek 83 = .ok (.invokevirtual 94, 3) := by decide +kernel
theorem dX1_seek_86 : decode cX1_seek 86 = .ok (.ifCond .eq 36, 3) := by decide +kernel
theorem dX1_seek_89 : decode cX1_seek 89 = .ok (.aload_n 0, 1) := by decide +kernel
theorem dX1_seek_90 : decode cX1_seek 90 = .ok (.iload_n 1, 1) := by decide +kernel
theorem dX1_seek_91 : decode cX1_seek 91 = .ok (.ifCond .ne 8, 3) := by decide +kernel
theorem dX1_seek_94 : decode cX1_seek 94 = .ok (.iload 8, 2) := by decide +kernel
theorem dX1_seek_96 : decode cX1_seek 96 = .ok (.goto 7, 3) := by decide +kernel
theorem dX1_seek_99 : decode cX1_seek 99 = .ok (.aload_n 0, 1) := by decide +kernel
theorem dX1_seek_100 : decode cX1_seek 100 = .ok (.getfield 98, 3) := by decide +kernel
theorem dX1_seek_103 : decode cX1_seek 103 = .ok (.putfield 98, 3) := by decide +kernel
theorem dX1_seek_106 : decode cX1_seek 106 = .ok (.aload_n 0, 1) := by decide +kernel
theorem dX1_seek_107 : decode cX1_seek 107 = .ok (.iload_n 1, 1) := by decide +kernel
theorem dX1_seek_108 : decode cX1_seek 108 = .ok (.iconst 1, 1) := by decide +kernel
theorem dX1_seek_109 : decode cX1_seek 109 = .ok (.iadd, 1) := by decide +kernel
theorem dX1_seek_110 : decode cX1_seek 110 = .ok (.iload_n 2, 1) := by decide +kernel
theorem dX1_seek_111 : decode cX1_seek 111 = .ok (.iconst 1, 1) := by decide +kernel
theorem dX1_seek_112 : decode cX1_seek 112 = .ok (.isub, 1) := by decide +kernel
theorem dX1_seek_113 : decode cX1_seek 113 = .ok (.iload 8, 2) := by decide +kernel
theorem dX1_seek_115 : decode cX1_seek 115 = .ok (.iconst 1, 1) := by decide +kernel
theorem dX1_seek_116 : decode cX1_seek 116 = .ok (.iadd, 1) := by decide +kernel
theorem dX1_seek_117 : decode cX1_seek 117 = .ok (.iload 5, 2) := by decide +kernel
theorem dX1_seek_119 : decode cX1_seek 119 = .ok (.invokevirtual 59, 3) := by decide +kernel
theorem dX1_seek_122 : decode cX1_seek 122 = .ok (.iinc 7 1, 3) := by decide +kernel
theorem dX1_seek_125 : decode cX1_seek 125 = .ok (.goto (-73), 3) := by decide +kernel
theorem dX1_seek_128 : decode cX1_seek 128 = .ok (.iload 5, 2) := by decide +kernel
theorem dX1_seek_130 : decode cX1_seek 130 = .ok (.aload_n 0, 1) := by decide +kernel
theorem dX1_seek_131 : decode cX1_seek 131 = .ok (.iload_n 1, 1) := by decide +kernel
theorem dX1_seek_132 : decode cX1_seek 132 = .ok (.iload 6, 2) := by decide +kernel
theorem dX1_seek_134 : decode cX1_seek 134 = .ok (.invokevirtual 49, 3) := by decide +kernel
theorem dX1_seek_137 : decode cX1_seek 137 = .ok (.iadd, 1) := by decide +kernel
theorem dX1_seek_138 : decode cX1_seek 138 = .ok (.istore 5, 2) := by decide +kernel
theorem dX1_seek_140 : decode cX1_seek 140 = .ok (.iinc 6 1, 3) := by decide +kernel
theorem dX1_seek_143 : decode cX1_seek 143 = .ok (.goto (-112), 3) := by decide +kernel
theorem dX1_seek_146 : decode cX1_seek 146 = .ok (.return_, 1) := by decide +kernel
theorem dX1_seekLast_0 : decode cX1_seekLast 0 = .ok (.aload_n 0, 1) := by decide +kernel
theorem dX1_seekLast_1 : decode cX1_seekLast 1 = .ok (.iload_n 1, 1) := by decide +kernel
theorem dX1_seekLast_2 : decode cX1_seekLast 2 = .ok (.iload_n 2, 1) := by decide +kernel
theorem dX1_seekLast_3 : decode cX1_seekLast 3 = .ok (.bipush 10, 2) := by decide +kernel
theorem dX1_seekLast_5 : decode cX1_seekLast 5 = .ok (.idiv, 1) := by decide +kernel
theorem dX1_seekLast_6 : decode cX1_seekLast 6 = .ok (.invokevirtual 101, 3) := by decide +kernel
theorem dX1_seekLast_9 : decode cX1_seekLast 9 = .ok (.iload_n 3, 1) := by decide +kernel
theorem dX1_seekLast_10 : decode cX1_seekLast 10 = .ok (.istore 4, 2) := by decide +kernel
theorem dX1_seekLast_12 : decode cX1_seekLast 12 = .ok (.iload_n 2, 1) := by decide +kernel
theorem dX1_seekLast_13 : decode cX1_seekLast 13 = .ok (.bipush 10, 2) := by decide +kernel
theorem dX1_seekLast_15 : decode cX1_seekLast 15 = .ok (.idiv, 1) := by decide +kernel
theorem dX1_seekLast_16 : decode cX1_seekLast 16 = .ok (.istore 5, 2) := by decide +kernel
theorem dX1_seekLast_18 : decode cX1_seekLast 18 = .ok (.iload 5, 2) := by decide +kernel
theorem dX1_seekLast_20 : decode cX1_seekLast 20 = .ok (.aload_n 0, 1) := by decide +kernel
theorem dX1_seekLast_21 : decode cX1_seekLast 21 = .ok (.getfield 46, 3) := by decide +kernel
theorem dX1_seekLast_24 : decode cX1_seekLast 24 = .ok (.if_icmp .ge 118, 3) := by decide +kernel
theorem dX1_seekLast_27 : decode cX1_seekLast 27 = .ok (.iload 4, 2) := by decide +kernel
theorem dX1_seekLast_29 : decode cX1_seekLast 29 = .ok (.aload_n 0, 1) := by decide +kernel
theorem dX1_seekLast_30 : decode cX1_seekLast 30 = .ok (.getfield 43, 3) := by decide +kernel
theorem dX1_seekLast_33 : decode cX1_seekLast 33 = .ok (.if_icmp .ge 109, 3) := by decide +kernel
theorem dX1_seekLast_36 : decode cX1_seekLast 36 = .ok (.iconst 0, 1) := by decide +kernel
theorem dX1_seekLast_37 : decode cX1_seekLast 37 = .ok (.istore 6, 2) := by decide +kernel
theorem dX1_seekLast_39 : decode cX1_seekLast 39 = .ok (.iload 6, 2) := by decide +kernel
theorem dX1_seekLast_41 : decode cX1_seekLast 41 = .ok (.aload_n 0, 1) := by decide +kernel
theorem dX1_seekLast_42 : decode cX1_seekLast 42 = .ok (.getfield 69, 3) := by decide +kernel
theorem dX1_seekLast_45 : decode cX1_seekLast 45 = .ok (.if_icmp .ge 75, 3) := by decide +kernel
theorem dX1_seekLast_48 : decode cX1_seekLast 48 = .ok (.bipush 10, 2) := by decide +kernel
theorem dX1_seekLast_50 : decode cX1_seekLast 50 = .ok (.iload 5, 2) := by decide +kernel
theorem dX1_seekLast_52 : decode cX1_seekLast 52 = .ok (.imul, 1) := by decide +kernel
theorem dX1_seekLast_53 : decode cX1_seekLast 53 = .ok (.iload 6, 2) := by decide +kernel
theorem dX1_seekLast_55 : decode cX1_seekLast 55 = .ok (.iadd, 1) := by decide +kernel
theorem dX1_seekLast_56 : decode cX1_seekLast 56 = .ok (.istore 7, 2) := by decide +kernel
theorem dX1_seekLast_58 : decode cX1_seekLast 58 = .ok (.iload 7, 2) := by decide +kernel
theorem dX1_seekLast_60 : decode cX1_seekLast 60 = .ok (.iload_n 2, 1) := by decide +kernel
theorem dX1_seekLast_61 : decode cX1_seekLast 61 = .ok (.if_icmp .lt 53, 3) := by decide +kernel
theorem dX1_seekLast_64 : decode cX1_seekLast 64 = .ok (.aload_n 0, 1) := by decide +kernel
theorem dX1_seekLast_65 : decode cX1_seekLast 65 = .ok (.getfield 32, 3) := by decide +kernel
theorem dX1_seekLast_68 : decode cX1_seekLast 68 = .ok (.iload 5, 2) := by decide +kernel
theorem dX1_seekLast_70 : decode cX1_seekLast 70 = .ok (.iaload, 1) := by decide +kernel
theorem dX1_seekLast_71 : decode cX1_seekLast 71 = .ok (.iload 6, 2) := by decide +kernel
theorem dX1_seekLast_73 : decode cX1_seekLast 73 = .ok (.invokestatic 105, 3) := by decide +kernel
theorem dX1_seekLast_76 : decode cX1_seekLast 76 = .ok (.ifCond .eq 38, 3) := by decide +kernel
theorem dX1_seekLast_79 : decode cX1_seekLast 79 = .ok (.aload_n 0, 1) := by decide +kernel
theorem dX1_seekLast_80 : decode cX1_seekLast 80 = .ok (.iload_n 1, 1) := by decide +kernel
theorem dX1_seekLast_81 : decode cX1_seekLast 81 = .ok (.ifCond .ne 8, 3) := by decide +kernel
theorem dX1_seekLast_84 : decode cX1_seekLast 84 = .ok (.iload 7, 2) := by decide +kernel
theorem dX1_seekLast_86 : decode cX1_seekLast 86 = .ok (.goto 7, 3) := by decide +kernel
theorem dX1_seekLast_89 : decode cX1_seekLast 89 = .ok (.aload_n 0, 1) := by decide +kernel
theorem dX1_seekLast_90 : decode cX1_seekLast 90 = .ok (.getfield 98, 3) := by decide +kernel
theorem dX1_seekLast_93 : decode cX1_seekLast 93 = .ok (.putfield 98, 3) := by decide +kernel
theorem dX1_seekLast_96 : decode cX1_seekLast 96 = .ok (.aload_n 0, 1) := by decide +kernel
theorem dX1_seekLast_97 : decode cX1_seekLast 97 = .ok (.iload_n 1, 1) := by decide +kernel
theorem dX1_seekLast_98 : decode cX1_seekLast 98 = .ok (.iconst 1, 1) := by decide +kernel
theorem dX1_seekLast_99 : decode cX1_seekLast 99 = .ok (.iadd, 1) := by decide +kernel
theorem dX1_seekLast_100 : decode cX1_seekLast 100 = .ok (.iload 4, 2) := by decide +kernel
theorem dX1_seekLast_102 : decode cX1_seekLast 102 = .ok (.aload_n 0, 1) := by decide +kernel
theorem dX1_seekLast_103 : decode cX1_seekLast 103 = .ok (.iload 5, 2) := by decide +kernel
theorem dX1_seekLast_105 : decode cX1_seekLast 105 = .ok (.iload 6, 2) := by decide +kernel
theorem dX1_seekLast_107 : decode cX1_seekLast 107 = .ok (.invokevirtual 109, 3) := by decide +kernel
theorem dX1_seekLast_110 : decode cX1_seekLast 110 = .ok (.iadd, 1) := by decide +kernel
theorem dX1_seekLast_111 : decode cX1_seekLast 111 = .ok (.invokevirtual 112, 3) := by decide +kernel
theorem dX1_seekLast_114 : decode cX1_seekLast 114 = .ok (.iinc 6 1, 3) := by decide +kernel
theorem dX1_seekLast_117 : decode cX1_seekLast 117 = .ok (.goto (-78), 3) := by decide +kernel
theorem dX1_seekLast_120 : decode cX1_seekLast 120 = .ok (.iload 4, 2) := by decide +kernel
theorem dX1_seekLast_122 : decode cX1_seekLast 122 = .ok (.aload_n 0, 1) := by decide +kernel
theorem dX1_seekLast_123 : decode cX1_seekLast 123 = .ok (.aload_n 0, 1) := by decide +kernel
theorem dX1_seekLast_124 : decode cX1_seekLast 124 = .ok (.getfield 26, 3) := by decide +kernel
theorem dX1_seekLast_127 : decode cX1_seekLast 127 = .ok (.iload 5, 2) := by decide +kernel
theorem dX1_seekLast_129 : decode cX1_seekLast 129 = .ok (.iaload, 1) := by decide +kernel
theorem dX1_seekLast_130 : decode cX1_seekLast 130 = .ok (.invokevirtual 115, 3) := by decide +kernel
theorem dX1_seekLast_133 : decode cX1_seekLast 133 = .ok (.iadd, 1) := by decide +kernel
theorem dX1_seekLast_134 : decode cX1_seekLast 134 = .ok (.istore 4, 2) := by decide +kernel
theorem dX1_seekLast_136 : decode cX1_seekLast 136 = .ok (.iinc 5 1, 3) := by decide +kernel
theorem dX1_seekLast_139 : decode cX1_seekLast 139 = .ok (.goto (-121), 3) := by decide +kernel
theorem dX1_seekLast_142 : decode cX1_seekLast 142 = .ok (.return_, 1) := by decide +kernel
theorem dX1_toll_0 : decode cX1_toll 0 = .ok (.aload_n 0, 1) := by decide +kernel
theorem dX1_toll_1 : decode cX1_toll 1 = .ok (.aload_n 0, 1) := by decide +kernel
theorem dX1_toll_2 : decode cX1_toll 2 = .ok (.getfield 20, 3) := by decide +kernel
theorem dX1_toll_5 : decode cX1_toll 5 = .ok (.iload_n 1, 1) := by decide +kernel
theorem dX1_toll_6 : decode cX1_toll 6 = .ok (.bipush 7, 2) := by decide +kernel
theorem dX1_toll_8 : decode cX1_toll 8 = .ok (.imul, 1) := by decide +kernel
theorem dX1_toll_9 : decode cX1_toll 9 = .ok (.iload_n 2, 1) := by decide +kernel
theorem dX1_toll_10 : decode cX1_toll 10 = .ok (.iadd, 1) := by decide +kernel
theorem dX1_toll_11 : decode cX1_toll 11 = .ok (.aaload, 1) := by decide +kernel
theorem dX1_toll_12 : decode cX1_toll 12 = .ok (.aload_n 0, 1) := by decide +kernel
theorem dX1_toll_13 : decode cX1_toll 13 = .ok (.getfield 9, 3) := by decide +kernel
theorem dX1_toll_16 : decode cX1_toll 16 = .ok (.iload_n 2, 1) := by decide +kernel
theorem dX1_toll_17 : decode cX1_toll 17 = .ok (.iaload, 1) := by decide +kernel
theorem dX1_toll_18 : decode cX1_toll 18 = .ok (.invokestatic 123, 3) := by decide +kernel
theorem dX1_toll_21 : decode cX1_toll 21 = .ok (.invokevirtual 115, 3) := by decide +kernel
theorem dX1_toll_24 : decode cX1_toll 24 = .ok (.ireturn, 1) := by decide +kernel
theorem dX1_tollBy_0 : decode cX1_tollBy 0 = .ok (.iconst 0, 1) := by decide +kernel
theorem dX1_tollBy_1 : decode cX1_tollBy 1 = .ok (.istore_n 3, 1) := by decide +kernel
theorem dX1_tollBy_2 : decode cX1_tollBy 2 = .ok (.iload_n 1, 1) := by decide +kernel
theorem dX1_tollBy_3 : decode cX1_tollBy 3 = .ok (.istore 4, 2) := by decide +kernel
theorem dX1_tollBy_5 : decode cX1_tollBy 5 = .ok (.iload 4, 2) := by decide +kernel
theorem dX1_tollBy_7 : decode cX1_tollBy 7 = .ok (.aload_n 0, 1) := by decide +kernel
theorem dX1_tollBy_8 : decode cX1_tollBy 8 = .ok (.getfield 46, 3) := by decide +kernel
theorem dX1_tollBy_11 : decode cX1_tollBy 11 = .ok (.if_icmp .ge 87, 3) := by decide +kernel
theorem dX1_tollBy_14 : decode cX1_tollBy 14 = .ok (.aload_n 0, 1) := by decide +kernel
theorem dX1_tollBy_15 : decode cX1_tollBy 15 = .ok (.getfield 26, 3) := by decide +kernel
theorem dX1_tollBy_18 : decode cX1_tollBy 18 = .ok (.iload 4, 2) := by decide +kernel
theorem dX1_tollBy_20 : decode cX1_tollBy 20 = .ok (.iaload, 1) := by decide +kernel
theorem dX1_tollBy_21 : decode cX1_tollBy 21 = .ok (.istore 5, 2) := by decide +kernel
theorem dX1_tollBy_23 : decode cX1_tollBy 23 = .ok (.aload_n 0, 1) := by decide +kernel
theorem dX1_tollBy_24 : decode cX1_tollBy 24 = .ok (.getfield 9, 3) := by decide +kernel
theorem dX1_tollBy_27 : decode cX1_tollBy 27 = .ok (.iload 4, 2) := by decide +kernel
theorem dX1_tollBy_29 : decode cX1_tollBy 29 = .ok (.iaload, 1) := by decide +kernel
theorem dX1_tollBy_30 : decode cX1_tollBy 30 = .ok (.iload_n 2, 1) := by decide +kernel
theorem dX1_tollBy_31 : decode cX1_tollBy 31 = .ok (.invokestatic 105, 3) := by decide +kernel
theorem dX1_tollBy_34 : decode cX1_tollBy 34 = .ok (.ifCond .eq 49, 3) := by decide +kernel
theorem dX1_tollBy_37 : decode cX1_tollBy 37 = .ok (.aload_n 0, 1) := by decide +kernel
theorem dX1_tollBy_38 : decode cX1_tollBy 38 = .ok (.getfield 23, 3) := by decide +kernel
theorem dX1_tollBy_41 : decode cX1_tollBy 41 = .ok (.iload 4, 2) := by decide +kernel
theorem dX1_tollBy_43 : decode cX1_tollBy 43 = .ok (.iaload, 1) := by decide +kernel
theorem dX1_tollBy_44 : decode cX1_tollBy 44 = .ok (.iload_n 2, 1) := by decide +kernel
theorem dX1_tollBy_45 : decode cX1_tollBy 45 = .ok (.if_icmp .ne 13, 3) := by decide +kernel
theorem dX1_tollBy_48 : decode cX1_tollBy 48 = .ok (.aload_n 0, 1) := by decide +kernel
theorem dX1_tollBy_49 : decode cX1_tollBy 49 = .ok (.getfield 29, 3) := by decide +kernel
theorem dX1_tollBy_52 : decode cX1_tollBy 52 = .ok (.iload 4, 2) := by decide +kernel
theorem dX1_tollBy_54 : decode cX1_tollBy 54 = .ok (.iaload, 1) := by decide +kernel
theorem dX1_tollBy_55 : decode cX1_tollBy 55 = .ok (.goto 5, 3) := by decide +kernel
theorem dX1_tollBy_58 : decode cX1_tollBy 58 = .ok (.iload 5, 2) := by decide +kernel
theorem dX1_tollBy_60 : decode cX1_tollBy 60 = .ok (.istore 6, 2) := by decide +kernel
theorem dX1_tollBy_62 : decode cX1_tollBy 62 = .ok (.iload 6, 2) := by decide +kernel
theorem dX1_tollBy_64 : decode cX1_tollBy 64 = .ok (.aload_n 0, 1) := by decide +kernel
theorem dX1_tollBy_65 : decode cX1_tollBy 65 = .ok (.getfield 17, 3) := by decide +kernel
theorem dX1_tollBy_68 : decode cX1_tollBy 68 = .ok (.iload_n 1, 1) := by decide +kernel
theorem dX1_tollBy_69 : decode cX1_tollBy 69 = .ok (.bipush 7, 2) := by decide +kernel
theorem dX1_tollBy_71 : decode cX1_tollBy 71 = .ok (.imul, 1) := by decide +kernel
theorem dX1_tollBy_72 : decode cX1_tollBy 72 = .ok (.iload 4, 2) := by decide +kernel
theorem dX1_tollBy_74 : decode cX1_tollBy 74 = .ok (.iadd, 1) := by decide +kernel
theorem dX1_tollBy_75 : decode cX1_tollBy 75 = .ok (.aaload, 1) := by decide +kernel
theorem dX1_tollBy_76 : decode cX1_tollBy 76 = .ok (.iload_n 2, 1) := by decide +kernel
theorem dX1_tollBy_77 : decode cX1_tollBy 77 = .ok (.iaload, 1) := by decide +kernel
theorem dX1_tollBy_78 : decode cX1_tollBy 78 = .ok (.invokestatic 126, 3) := by decide +kernel
theorem dX1_tollBy_81 : decode cX1_tollBy 81 = .ok (.istore 5, 2) := by decide +kernel
theorem dX1_tollBy_83 : decode cX1_tollBy 83 = .ok (.iload_n 3, 1) := by decide +kernel
theorem dX1_tollBy_84 : decode cX1_tollBy 84 = .ok (.aload_n 0, 1) := by decide +kernel
theorem dX1_tollBy_85 : decode cX1_tollBy 85 = .ok (.iload 5, 2) := by decide +kernel
theorem dX1_tollBy_87 : decode cX1_tollBy 87 = .ok (.invokevirtual 115, 3) := by decide +kernel
theorem dX1_tollBy_90 : decode cX1_tollBy 90 = .ok (.iadd, 1) := by decide +kernel
theorem dX1_tollBy_91 : decode cX1_tollBy 91 = .ok (.istore_n 3, 1) := by decide +kernel
theorem dX1_tollBy_92 : decode cX1_tollBy 92 = .ok (.iinc 4 1, 3) := by decide +kernel
theorem dX1_tollBy_95 : decode cX1_tollBy 95 = .ok (.goto (-90), 3) := by decide +kernel
theorem dX1_tollBy_98 : decode cX1_tollBy 98 = .ok (.iload_n 3, 1) := by decide +kernel
theorem dX1_tollBy_99 : decode cX1_tollBy 99 = .ok (.ireturn, 1) := by decide +kernel
theorem dX1_tollOf_0 : decode cX1_tollOf 0 = .ok (.aload_n 0, 1) := by decide +kernel
theorem dX1_tollOf_1 : decode cX1_tollOf 1 = .ok (.getfield 39, 3) := by decide +kernel
theorem dX1_tollOf_4 : decode cX1_tollOf 4 = .ok (.iconst (-1), 1) := by decide +kernel
theorem dX1_tollOf_5 : decode cX1_tollOf 5 = .ok (.if_icmp .ne 12, 3) := by decide +kernel
theorem dX1_tollOf_8 : decode cX1_tollOf 8 = .ok (.iload_n 1, 1) := by decide +kernel
theorem dX1_tollOf_9 : decode cX1_tollOf 9 = .ok (.aload_n 0, 1) := by decide +kernel
theorem dX1_tollOf_10 : decode cX1_tollOf 10 = .ok (.getfield 75, 3) := by decide +kernel
theorem dX1_tollOf_13 : decode cX1_tollOf 13 = .ok (.invokestatic 131, 3) := by decide +kernel
theorem dX1_tollOf_16 : decode cX1_tollOf 16 = .ok (.ireturn, 1) := by decide +kernel
theorem dX1_tollOf_17 : decode cX1_tollOf 17 = .ok (.iload_n 1, 1) := by decide +kernel
theorem dX1_tollOf_18 : decode cX1_tollOf 18 = .ok (.aload_n 0, 1) := by decide +kernel
theorem dX1_tollOf_19 : decode cX1_tollOf 19 = .ok (.getfield 39, 3) := by decide +kernel
theorem dX1_tollOf_22 : decode cX1_tollOf 22 = .ok (.if_icmp .le 7, 3) := by decide +kernel
theorem dX1_tollOf_25 : decode cX1_tollOf 25 = .ok (.iconst 1, 1) := by decide +kernel
theorem dX1_tollOf_26 : decode cX1_tollOf 26 = .ok (.goto 4, 3) := by decide +kernel
theorem dX1_tollOf_29 : decode cX1_tollOf 29 = .ok (.iconst 0, 1) := by decide +kernel
theorem dX1_tollOf_30 : decode cX1_tollOf 30 = .ok (.ireturn, 1) := by decide +kernel
theorem dX2_gain_0 : decode cX2_gain 0 = .ok (.iload_n 3, 1) := by decide +kernel
theorem dX2_gain_1 : decode cX2_gain 1 = .ok (.iload_n 1, 1) := by decide +kernel
theorem dX2_gain_2 : decode cX2_gain 2 = .ok (.if_icmp .ne 12, 3) := by decide +kernel
theorem dX2_gain_5 : decode cX2_gain 5 = .ok (.aload_n 0, 1) := by decide +kernel
theorem dX2_gain_6 : decode cX2_gain 6 = .ok (.getfield 64, 3) := by decide +kernel
theorem dX2_gain_9 : decode cX2_gain 9 = .ok (.iload_n 1, 1) := by decide +kernel
theorem dX2_gain_10 : decode cX2_gain 10 = .ok (.iaload, 1) := by decide +kernel
theorem dX2_gain_11 : decode cX2_gain 11 = .ok (.goto 4, 3) := by decide +kernel
theorem dX2_gain_14 : decode cX2_gain 14 = .ok (.iconst 0, 1) := by decide +kernel
theorem dX2_gain_15 : decode cX2_gain 15 = .ok (.istore 4, 2) := by decide +kernel
theorem dX2_gain_17 : decode cX2_gain 17 = .ok (.iload 4, 2) := by decide +kernel
theorem dX2_gain_19 : decode cX2_gain 19 = .ok (.bipush 10, 2) := by decide +kernel
theorem dX2_gain_21 : decode cX2_gain 21 = .ok (.iload_n 2, 1) := by decide +kernel
theorem dX2_gain_22 : decode cX2_gain 22 = .ok (.imul, 1) := by decide +kernel
theorem dX2_gain_23 : decode cX2_gain 23 = .ok (.isub, 1) := by decide +kernel
theorem dX2_gain_24 : decode cX2_gain 24 = .ok (.ireturn, 1) := by decide +kernel
theorem dX2_init_0 : decode cX2_init 0 = .ok (.aload_n 0, 1) := by decide +kernel
theorem dX2_init_1 : decode cX2_init 1 = .ok (.invokespecial 3, 3) := by decide +kernel
theorem dX2_init_4 : decode cX2_init 4 = .ok (.aload_n 0, 1) := by decide +kernel
theorem dX2_init_5 : decode cX2_init 5 = .ok (.bipush 6, 2) := by decide +kernel
theorem dX2_init_7 : decode cX2_init 7 = .ok (.newarray .int, 2) := by decide +kernel
theorem dX2_init_9 : decode cX2_init 9 = .ok (.putfield 9, 3) := by decide +kernel
theorem dX2_init_12 : decode cX2_init 12 = .ok (.aload_n 0, 1) := by decide +kernel
theorem dX2_init_13 : decode cX2_init 13 = .ok (.bipush 36, 2) := by decide +kernel
theorem dX2_init_15 : decode cX2_init 15 = .ok (.newarray .int, 2) := by decide +kernel
theorem dX2_init_17 : decode cX2_init 17 = .ok (.putfield 15, 3) := by decide +kernel
theorem dX2_init_20 : decode cX2_init 20 = .ok (.aload_n 0, 1) := by decide +kernel
theorem dX2_init_21 : decode cX2_init 21 = .ok (.bipush 36, 2) := by decide +kernel
theorem dX2_init_23 : decode cX2_init 23 = .ok (.newarray .int, 2) := by decide +kernel
theorem dX2_init_25 : decode cX2_init 25 = .ok (.putfield 18, 3) := by decide +kernel
theorem dX2_init_28 : decode cX2_init 28 = .ok (.return_, 1) := by decide +kernel
theorem dX2_isBest_0 : decode cX2_isBest 0 = .ok (.aload_n 1, 1) := by decide +kernel
theorem dX2_isBest_1 : decode cX2_isBest 1 = .ok (.iload_n 2, 1) := by decide +kernel
theorem dX2_isBest_2 : decode cX2_isBest 2 = .ok (.iload_n 3, 1) := by decide +kernel
theorem dX2_isBest_3 : decode cX2_isBest 3 = .ok (.aload_n 0, 1) := by decide +kernel
theorem dX2_isBest_4 : decode cX2_isBest 4 = .ok (.getfield 15, 3) := by decide +kernel
theorem dX2_isBest_7 : decode cX2_isBest 7 = .ok (.iload_n 3, 1) := by decide +kernel
theorem dX2_isBest_8 : decode cX2_isBest 8 = .ok (.iload 5, 2) := by decide +kernel
theorem dX2_isBest_10 : decode cX2_isBest 10 = .ok (.imul, 1) := by decide +kernel
theorem dX2_isBest_11 : decode cX2_isBest 11 = .ok (.iload 4, 2) := by decide +kernel
theorem dX2_isBest_13 : decode cX2_isBest 13 = .ok (.iload 6, 2) := by decide +kernel
theorem dX2_isBest_15 : decode cX2_isBest 15 = .ok (.imul, 1) := by decide +kernel
theorem dX2_isBest_16 : decode cX2_isBest 16 = .ok (.iadd, 1) := by decide +kernel
theorem dX2_isBest_17 : decode cX2_isBest 17 = .ok (.iaload, 1) := by decide +kernel
theorem dX2_isBest_18 : decode cX2_isBest 18 = .ok (.invokestatic 60, 3) := by decide +kernel
theorem dX2_isBest_21 : decode cX2_isBest 21 = .ok (.istore 7, 2) := by decide +kernel
theorem dX2_isBest_23 : decode cX2_isBest 23 = .ok (.iconst 0, 1) := by decide +kernel
theorem dX2_isBest_24 : decode cX2_isBest 24 = .ok (.istore 8, 2) := by decide +kernel
theorem dX2_isBest_26 : decode cX2_isBest 26 = .ok (.iload 8, 2) := by decide +kernel
theorem dX2_isBest_28 : decode cX2_isBest 28 = .ok (.bipush 6, 2) := by decide +kernel
theorem dX2_isBest_30 : decode cX2_isBest 30 = .ok (.if_icmp .ge 39, 3) := by decide +kernel
theorem dX2_isBest_33 : decode cX2_isBest 33 = .ok (.aload_n 1, 1) := by decide +kernel
theorem dX2_isBest_34 : decode cX2_isBest 34 = .ok (.iload_n 2, 1) := by decide +kernel
theorem dX2_isBest_35 : decode cX2_isBest 35 = .ok (.iload 8, 2) := by decide +kernel
theorem dX2_isBest_37 : decode cX2_isBest 37 = .ok (.aload_n 0, 1) := by decide +kernel
theorem dX2_isBest_38 : decode cX2_isBest 38 = .ok (.getfield 15, 3) := by decide +kernel
theorem dX2_isBest_41 : decode cX2_isBest 41 = .ok (.iload 8, 2) := by decide +kernel
theorem dX2_isBest_43 : decode cX2_isBest 43 = .ok (.iload 5, 2) := by decide +kernel
theorem dX2_isBest_45 : decode cX2_isBest 45 = .ok (.imul, 1) := by decide +kernel
theorem dX2_isBest_46 : decode cX2_isBest 46 = .ok (.iload 4, 2) := by decide +kernel
theorem dX2_isBest_48 : decode cX2_isBest 48 = .ok (.iload 6, 2) := by decide +kernel
theorem dX2_isBest_50 : decode cX2_isBest 50 = .ok (.imul, 1) := by decide +kernel
theorem dX2_isBest_51 : decode cX2_isBest 51 = .ok (.iadd, 1) := by decide +kernel
theorem dX2_isBest_52 : decode cX2_isBest 52 = .ok (.iaload, 1) := by decide +kernel
theorem dX2_isBest_53 : decode cX2_isBest 53 = .ok (.invokestatic 60, 3) := by decide +kernel
theorem dX2_isBest_56 : decode cX2_isBest 56 = .ok (.iload 7, 2) := by decide +kernel
theorem dX2_isBest_58 : decode cX2_isBest 58 = .ok (.if_icmp .le 5, 3) := by decide +kernel
theorem dX2_isBest_61 : decode cX2_isBest 61 = .ok (.iconst 0, 1) := by decide +kernel
theorem dX2_isBest_62 : decode cX2_isBest 62 = .ok (.ireturn, 1) := by decide +kernel
theorem dX2_isBest_63 : decode cX2_isBest 63 = .ok (.iinc 8 1, 3) := by decide +kernel
theorem dX2_isBest_66 : decode cX2_isBest 66 = .ok (.goto (-40), 3) := by decide +kernel
theorem dX2_isBest_69 : decode cX2_isBest 69 = .ok (.iconst 1, 1) := by decide +kernel
theorem dX2_isBest_70 : decode cX2_isBest 70 = .ok (.ireturn, 1) := by decide +kernel
theorem dX2_note_0 : decode cX2_note 0 = .ok (.aload_n 0, 1) := by decide +kernel
theorem dX2_note_1 : decode cX2_note 1 = .ok (.getfield 36, 3) := by decide +kernel
theorem dX2_note_4 : decode cX2_note 4 = .ok (.ifCond .ne 18, 3) := by decide +kernel
theorem dX2_note_7 : decode cX2_note 7 = .ok (.aload_n 0, 1) := by decide +kernel
theorem dX2_note_8 : decode cX2_note 8 = .ok (.iload_n 2, 1) := by decide +kernel
theorem dX2_note_9 : decode cX2_note 9 = .ok (.putfield 40, 3) := by decide +kernel
theorem dX2_note_12 : decode cX2_note 12 = .ok (.aload_n 0, 1) := by decide +kernel
theorem dX2_note_13 : decode cX2_note 13 = .ok (.aload_n 0, 1) := by decide +kernel
theorem dX2_note_14 : decode cX2_note 14 = .ok (.getfield 18, 3) := by decide +kernel
theorem dX2_note_17 : decode cX2_note 17 = .ok (.iload_n 1, 1) := by decide +kernel
theorem dX2_note_18 : decode cX2_note 18 = .ok (.iaload, 1) := by decide +kernel
theorem dX2_note_19 : decode cX2_note 19 = .ok (.putfield 43, 3) := by decide +kernel
theorem dX2_note_22 : decode cX2_note 22 = .ok (.aload_n 0, 1) := by decide +kernel
theorem dX2_note_23 : decode cX2_note 23 = .ok (.aload_n 0, 1) := by decide +kernel
theorem dX2_note_24 : decode cX2_note 24 = .ok (.getfield 43, 3) := by decide +kernel
theorem dX2_note_27 : decode cX2_note 27 = .ok (.aload_n 0, 1) := by decide +kernel
theorem dX2_note_28 : decode cX2_note 28 = .ok (.getfield 18, 3) := by decide +kernel
theorem dX2_note_31 : decode cX2_note 31 = .ok (.iload_n 1, 1) := by decide +kernel
theorem dX2_note_32 : decode cX2_note 32 = .ok (.iaload, 1) := by decide +kernel
theorem dX2_note_33 : decode cX2_note 33 = .ok (.invokestatic 54, 3) := by decide +kernel
theorem dX2_note_36 : decode cX2_note 36 = .ok (.putfield 43, 3) := by decide +kernel
theorem dX2_note_39 : decode cX2_note 39 = .ok (.aload_n 0, 1) := by decide +kernel
theorem dX2_note_40 : decode cX2_note 40 = .ok (.dup, 1) := by decide +kernel
theorem dX2_note_41 : decode cX2_note 41 = .ok (.getfield 36, 3) := by decide +kernel
theorem dX2_note_44 : decode cX2_note 44 = .ok (.iconst 1, 1) := by decide +kernel
theorem dX2_note_45 : decode cX2_note 45 = .ok (.iadd, 1) := by decide +kernel
theorem dX2_note_46 : decode cX2_note 46 = .ok (.putfield 36, 3) := by decide +kernel
theorem dX2_note_49 : decode cX2_note 49 = .ok (.return_, 1) := by decide +kernel
theorem dX2_run_0 : decode cX2_run 0 = .ok (.aload_n 2, 1) := by decide +kernel
theorem dX2_run_1 : decode cX2_run 1 = .ok (.iconst 0, 1) := by decide +kernel
theorem dX2_run_2 : decode cX2_run 2 = .ok (.aload_n 0, 1) := by decide +kernel
theorem dX2_run_3 : decode cX2_run 3 = .ok (.getfield 9, 3) := by decide +kernel
theorem dX2_run_6 : decode cX2_run 6 = .ok (.iconst 0, 1) := by decide +kernel
theorem dX2_run_7 : decode cX2_run 7 = .ok (.bipush 6, 2) := by decide +kernel
theorem dX2_run_9 : decode cX2_run 9 = .ok (.invokestatic 21, 3) := by decide +kernel
theorem dX2_run_12 : decode cX2_run 12 = .ok (.iconst 0, 1) := by decide +kernel
theorem dX2_run_13 : decode cX2_run 13 = .ok (.istore 6, 2) := by decide +kernel
theorem dX2_run_15 : decode cX2_run 15 = .ok (.iload 6, 2) := by decide +kernel
theorem dX2_run_17 : decode cX2_run 17 = .ok (.bipush 36, 2) := by decide +kernel
theorem dX2_run_19 : decode cX2_run 19 = .ok (.if_icmp .ge 73, 3) := by decide +kernel
theorem dX2_run_22 : decode cX2_run 22 = .ok (.aload_n 0, 1) := by decide +kernel
theorem dX2_run_23 : decode cX2_run 23 = .ok (.getfield 9, 3) := by decide +kernel
theorem dX2_run_26 : decode cX2_run 26 = .ok (.iload 4, 2) := by decide +kernel
theorem dX2_run_28 : decode cX2_run 28 = .ok (.aload_n 2, 1) := by decide +kernel
theorem dX2_run_29 : decode cX2_run 29 = .ok (.iload 4, 2) := by decide +kernel
theorem dX2_run_31 : decode cX2_run 31 = .ok (.iaload, 1) := by decide +kernel
theorem dX2_run_32 : decode cX2_run 32 = .ok (.iload 6, 2) := by decide +kernel
theorem dX2_run_34 : decode cX2_run 34 = .ok (.bipush 6, 2) := by decide +kernel
theorem dX2_run_36 : decode cX2_run 36 = .ok (.idiv, 1) := by decide +kernel
theorem dX2_run_37 : decode cX2_run 37 = .ok (.iadd, 1) := by decide +kernel
theorem dX2_run_38 : decode cX2_run 38 = .ok (.iastore, 1) := by decide +kernel
theorem dX2_run_39 : decode cX2_run 39 = .ok (.aload_n 0, 1) := by decide +kernel
theorem dX2_run_40 : decode cX2_run 40 = .ok (.getfield 9, 3) := by decide +kernel
theorem dX2_run_43 : decode cX2_run 43 = .ok (.iload 5, 2) := by decide +kernel
theorem dX2_run_45 : decode cX2_run 45 = .ok (.aload_n 2, 1) := by decide +kernel
theorem dX2_run_46 : decode cX2_run 46 = .ok (.iload 5, 2) := by decide +kernel
theorem dX2_run_48 : decode cX2_run 48 = .ok (.iaload, 1) := by decide +kernel
theorem dX2_run_49 : decode cX2_run 49 = .ok (.iload 6, 2) := by decide +kernel
theorem dX2_run_51 : decode cX2_run 51 = .ok (.bipush 6, 2) := by decide +kernel
theorem dX2_run_53 : decode cX2_run 53 = .ok (.irem, 1) := by decide +kernel
theorem dX2_run_54 : decode cX2_run 54 = .ok (.iadd, 1) := by decide +kernel
theorem dX2_run_55 : decode cX2_run 55 = .ok (.iastore, 1) := by decide +kernel
theorem dX2_run_56 : decode cX2_run 56 = .ok (.aload_n 0, 1) := by decide +kernel
theorem dX2_run_57 : decode cX2_run 57 = .ok (.getfield 15, 3) := by decide +kernel
theorem dX2_run_60 : decode cX2_run 60 = .ok (.iload 6, 2) := by decide +kernel
theorem dX2_run_62 : decode cX2_run 62 = .ok (.aload_n 0, 1) := by decide +kernel
theorem dX2_run_63 : decode cX2_run 63 = .ok (.getfield 9, 3) := by decide +kernel
theorem dX2_run_66 : decode cX2_run 66 = .ok (.iload_n 3, 1) := by decide +kernel
theorem dX2_run_67 : decode cX2_run 67 = .ok (.invokestatic 27, 3) := by decide +kernel
theorem dX2_run_70 : decode cX2_run 70 = .ok (.iastore, 1) := by decide +kernel
theorem dX2_run_71 : decode cX2_run 71 = .ok (.aload_n 0, 1) := by decide +kernel
theorem dX2_run_72 : decode cX2_run 72 = .ok (.getfield 18, 3) := by decide +kernel
theorem dX2_run_75 : decode cX2_run 75 = .ok (.iload 6, 2) := by decide +kernel
theorem dX2_run_77 : decode cX2_run 77 = .ok (.aload_n 0, 1) := by decide +kernel
theorem dX2_run_78 : decode cX2_run 78 = .ok (.getfield 9, 3) := by decide +kernel
theorem dX2_run_81 : decode cX2_run 81 = .ok (.iload_n 3, 1) := by decide +kernel
theorem dX2_run_82 : decode cX2_run 82 = .ok (.invokestatic 33, 3) := by decide +kernel
theorem dX2_run_85 : decode cX2_run 85 = .ok (.iastore, 1) := by decide +kernel
theorem dX2_run_86 : decode cX2_run 86 = .ok (.iinc 6 1, 3) := by decide +kernel
theorem dX2_run_89 : decode cX2_run 89 = .ok (.goto (-74), 3) := by decide +kernel
theorem dX2_run_92 : decode cX2_run 92 = .ok (.aload_n 0, 1) := by decide +kernel
theorem dX2_run_93 : decode cX2_run 93 = .ok (.iconst 0, 1) := by decide +kernel
theorem dX2_run_94 : decode cX2_run 94 = .ok (.putfield 36, 3) := by decide +kernel
theorem dX2_run_97 : decode cX2_run 97 = .ok (.aload_n 0, 1) := by decide +kernel
theorem dX2_run_98 : decode cX2_run 98 = .ok (.iconst (-1), 1) := by decide +kernel
theorem dX2_run_99 : decode cX2_run 99 = .ok (.putfield 40, 3) := by decide +kernel
theorem dX2_run_102 : decode cX2_run 102 = .ok (.aload_n 0, 1) := by decide +kernel
theorem dX2_run_103 : decode cX2_run 103 = .ok (.sipush 10000, 3) := by decide +kernel
theorem dX2_run_106 : decode cX2_run 106 = .ok (.putfield 43, 3) := by decide +kernel
theorem dX2_run_109 : decode cX2_run 109 = .ok (.iconst 0, 1) := by decide +kernel
theorem dX2_run_110 : decode cX2_run 110 = .ok (.istore 6, 2) := by decide +kernel
theorem dX2_run_112 : decode cX2_run 112 = .ok (.iload 6, 2) := by decide +kernel
theorem dX2_run_114 : decode cX2_run 114 = .ok (.bipush 36, 2) := by decide +kernel
theorem dX2_run_116 : decode cX2_run 116 = .ok (.if_icmp .ge 71, 3) := by decide +kernel
theorem dX2_run_119 : decode cX2_run 119 = .ok (.iload 6, 2) := by decide +kernel
theorem dX2_run_121 : decode cX2_run 121 = .ok (.bipush 6, 2) := by decide +kernel
theorem dX2_run_123 : decode cX2_run 123 = .ok (.idiv, 1) := by decide +kernel
theorem dX2_run_124 : decode cX2_run 124 = .ok (.istore 7, 2) := by decide +kernel
theorem dX2_run_126 : decode cX2_run 126 = .ok (.iload 6, 2) := by decide +kernel
theorem dX2_run_128 : decode cX2_run 128 = .ok (.bipush 6, 2) := by decide +kernel
theorem dX2_run_130 : decode cX2_run 130 = .ok (.irem, 1) := by decide +kernel
theorem dX2_run_131 : decode cX2_run 131 = .ok (.istore 8, 2) := by decide +kernel
theorem dX2_run_133 : decode cX2_run 133 = .ok (.aload_n 0, 1) := by decide +kernel
theorem dX2_run_134 : decode cX2_run 134 = .ok (.aload_n 1, 1) := by decide +kernel
theorem dX2_run_135 : decode cX2_run 135 = .ok (.iload 4, 2) := by decide +kernel
theorem dX2_run_137 : decode cX2_run 137 = .ok (.iload 7, 2) := by decide +kernel
theorem dX2_run_139 : decode cX2_run 139 = .ok (.iload 8, 2) := by decide +kernel
theorem dX2_run_141 : decode cX2_run 141 = .ok (.bipush 6, 2) := by decide +kernel
theorem dX2_run_143 : decode cX2_run 143 = .ok (.iconst 1, 1) := by decide +kernel
theorem dX2_run_144 : decode cX2_run 144 = .ok (.invokevirtual 46, 3) := by decide +kernel
theorem dX2_run_147 : decode cX2_run 147 = .ok (.ifCond .eq 34, 3) := by decide +kernel
theorem dX2_run_150 : decode cX2_run 150 = .ok (.aload_n 0, 1) := by decide +kernel
theorem dX2_run_151 : decode cX2_run 151 = .ok (.aload_n 1, 1) := by decide +kernel
theorem dX2_run_152 : decode cX2_run 152 = .ok (.iload 5, 2) := by decide +kernel
theorem dX2_run_154 : decode cX2_run 154 = .ok (.iload 8, 2) := by decide +kernel
theorem dX2_run_156 : decode cX2_run 156 = .ok (.iload 7, 2) := by decide +kernel
theorem dX2_run_158 : decode cX2_run 158 = .ok (.iconst 1, 1) := by decide +kernel
theorem dX2_run_159 : decode cX2_run 159 = .ok (.bipush 6, 2) := by decide +kernel
theorem dX2_run_161 : decode cX2_run 161 = .ok (.invokevirtual 46, 3) := by decide +kernel
theorem dX2_run_164 : decode cX2_run 164 = .ok (.ifCond .eq 17, 3) := by decide +kernel
theorem dX2_run_167 : decode cX2_run 167 = .ok (.aload_n 0, 1) := by decide +kernel
theorem dX2_run_168 : decode cX2_run 168 = .ok (.iload 6, 2) := by decide +kernel
theorem dX2_run_170 : decode cX2_run 170 = .ok (.bipush 10, 2) := by decide +kernel
theorem dX2_run_172 : decode cX2_run 172 = .ok (.iload 7, 2) := by decide +kernel
theorem dX2_run_174 : decode cX2_run 174 = .ok (.imul, 1) := by decide +kernel
theorem dX2_run_175 : decode cX2_run 175 = .ok (.iload 8, 2) := by decide +kernel
theorem dX2_run_177 : decode cX2_run 177 = .ok (.iadd, 1) := by decide +kernel
theorem dX2_run_178 : decode cX2_run 178 = .ok (.invokevirtual 50, 3) := by decide +kernel
theorem dX2_run_181 : decode cX2_run 181 = .ok (.iinc 6 1, 3) := by decide +kernel
theorem dX2_run_184 : decode cX2_run 184 = .ok (.goto (-72), 3) := by decide +kernel
theorem dX2_run_187 : decode cX2_run 187 = .ok (.return_, 1) := by decide +kernel
theorem dX3_begin_0 : decode cX3_begin 0 = .ok (.aload_n 0, 1) := by decide +kernel
theorem dX3_begin_1 : decode cX3_begin 1 = .ok (.iload_n 1, 1) := by decide +kernel
theorem dX3_begin_2 : decode cX3_begin 2 = .ok (.putfield 19, 3) := by decide +kernel
theorem dX3_begin_5 : decode cX3_begin 5 = .ok (.aload_n 0, 1) := by decide +kernel
theorem dX3_begin_6 : decode cX3_begin 6 = .ok (.iload_n 2, 1) := by decide +kernel
theorem dX3_begin_7 : decode cX3_begin 7 = .ok (.putfield 9, 3) := by decide +kernel
theorem dX3_begin_10 : decode cX3_begin 10 = .ok (.iconst 0, 1) := by decide +kernel
theorem dX3_begin_11 : decode cX3_begin 11 = .ok (.istore_n 3, 1) := by decide +kernel
theorem dX3_begin_12 : decode cX3_begin 12 = .ok (.iload_n 3, 1) := by decide +kernel
theorem dX3_begin_13 : decode cX3_begin 13 = .ok (.bipush 60, 2) := by decide +kernel
theorem dX3_begin_15 : decode cX3_begin 15 = .ok (.if_icmp .ge 16, 3) := by decide +kernel
theorem dX3_begin_18 : decode cX3_begin 18 = .ok (.aload_n 0, 1) := by decide +kernel
theorem dX3_begin_19 : decode cX3_begin 19 = .ok (.getfield 15, 3) := by decide +kernel
theorem dX3_begin_22 : decode cX3_begin 22 = .ok (.iload_n 3, 1) := by decide +kernel
theorem dX3_begin_23 : decode cX3_begin 23 = .ok (.lconst 0, 1) := by decide +kernel
theorem dX3_begin_24 : decode cX3_begin 24 = .ok (.lastore, 1) := by decide +kernel
theorem dX3_begin_25 : decode cX3_begin 25 = .ok (.iinc 3 1, 3) := by decide +kernel
theorem dX3_begin_28 : decode cX3_begin 28 = .ok (.goto (-16), 3) := by decide +kernel
theorem dX3_begin_31 : decode cX3_begin 31 = .ok (.return_, 1) := by decide +kernel
theorem dX3_cut_0 : decode cX3_cut 0 = .ok (.iload_n 2, 1) := by decide +kernel
theorem dX3_cut_1 : decode cX3_cut 1 = .ok (.tableswitch 41 0 2 #[27, 32, 37], 27) := by decide +kernel
theorem dX3_cut_28 : decode cX3_cut 28 = .ok (.lload_n 0, 1) := by decide +kernel
theorem dX3_cut_29 : decode cX3_cut 29 = .ok (.l2i, 1) := by decide +kernel
theorem dX3_cut_30 : decode cX3_cut 30 = .ok (.i2b, 1) := by decide +kernel
theorem dX3_cut_31 : decode cX3_cut 31 = .ok (.i2l, 1) := by decide +kernel
theorem dX3_cut_32 : decode cX3_cut 32 = .ok (.lreturn, 1) := by decide +kernel
theorem dX3_cut_33 : decode cX3_cut 33 = .ok (.lload_n 0, 1) := by decide +kernel
theorem dX3_cut_34 : decode cX3_cut 34 = .ok (.l2i, 1) := by decide +kernel
theorem dX3_cut_35 : decode cX3_cut 35 = .ok (.i2s, 1) := by decide +kernel
theorem dX3_cut_36 : decode cX3_cut 36 = .ok (.i2l, 1) := by decide +kernel
theorem dX3_cut_37 : decode cX3_cut 37 = .ok (.lreturn, 1) := by decide +kernel
theorem dX3_cut_38 : decode cX3_cut 38 = .ok (.lload_n 0, 1) := by decide +kernel
theorem dX3_cut_39 : decode cX3_cut 39 = .ok (.l2i, 1) := by decide +kernel
theorem dX3_cut_40 : decode cX3_cut 40 = .ok (.i2l, 1) := by decide +kernel
theorem dX3_cut_41 : decode cX3_cut 41 = .ok (.lreturn, 1) := by decide +kernel
theorem dX3_cut_42 : decode cX3_cut 42 = .ok (.lload_n 0, 1) := by decide +kernel
theorem dX3_cut_43 : decode cX3_cut 43 = .ok (.lreturn, 1) := by decide +kernel
theorem dX3_holds_0 : decode cX3_holds 0 = .ok (.iload_n 1, 1) := by decide +kernel
theorem dX3_holds_1 : decode cX3_holds 1 = .ok (.ifCond .lt 21, 3) := by decide +kernel
theorem dX3_holds_4 : decode cX3_holds 4 = .ok (.iload_n 2, 1) := by decide +kernel
theorem dX3_holds_5 : decode cX3_holds 5 = .ok (.ifCond .lt 17, 3) := by decide +kernel
theorem dX3_holds_8 : decode cX3_holds 8 = .ok (.iload_n 1, 1) := by decide +kernel
theorem dX3_holds_9 : decode cX3_holds 9 = .ok (.aload_n 0, 1) := by decide +kernel
theorem dX3_holds_10 : decode cX3_holds 10 = .ok (.getfield 9, 3) := by decide +kernel
theorem dX3_holds_13 : decode cX3_holds 13 = .ok (.iload_n 2, 1) := by decide +kernel
theorem dX3_holds_14 : decode cX3_holds 14 = .ok (.isub, 1) := by decide +kernel
theorem dX3_holds_15 : decode cX3_holds 15 = .ok (.if_icmp .gt 7, 3) := by decide +kernel
theorem dX3_holds_18 : decode cX3_holds 18 = .ok (.iconst 1, 1) := by decide +kernel
theorem dX3_holds_19 : decode cX3_holds 19 = .ok (.goto 4, 3) := by decide +kernel
theorem dX3_holds_22 : decode cX3_holds 22 = .ok (.iconst 0, 1) := by decide +kernel
theorem dX3_holds_23 : decode cX3_holds 23 = .ok (.ireturn, 1) := by decide +kernel
theorem dX3_init_0 : decode cX3_init 0 = .ok (.aload_n 0, 1) := by decide +kernel
theorem dX3_init_1 : decode cX3_init 1 = .ok (.invokespecial 3, 3) := by decide +kernel
theorem dX3_init_4 : decode cX3_init 4 = .ok (.aload_n 0, 1) := by decide +kernel
theorem dX3_init_5 : decode cX3_init 5 = .ok (.iconst (-1), 1) := by decide +kernel
theorem dX3_init_6 : decode cX3_init 6 = .ok (.putfield 9, 3) := by decide +kernel
theorem dX3_init_9 : decode cX3_init 9 = .ok (.aload_n 0, 1) := by decide +kernel
theorem dX3_init_10 : decode cX3_init 10 = .ok (.bipush 60, 2) := by decide +kernel
theorem dX3_init_12 : decode cX3_init 12 = .ok (.newarray .long, 2) := by decide +kernel
theorem dX3_init_14 : decode cX3_init 14 = .ok (.putfield 15, 3) := by decide +kernel
theorem dX3_init_17 : decode cX3_init 17 = .ok (.return_, 1) := by decide +kernel
theorem dX3_isThere_0 : decode cX3_isThere 0 = .ok (.aload_n 0, 1) := by decide +kernel
theorem dX3_isThere_1 : decode cX3_isThere 1 = .ok (.getfield 9, 3) := by decide +kernel
theorem dX3_isThere_4 : decode cX3_isThere 4 = .ok (.ifCond .lt 7, 3) := by decide +kernel
theorem dX3_isThere_7 : decode cX3_isThere 7 = .ok (.iconst 1, 1) := by decide +kernel
theorem dX3_isThere_8 : decode cX3_isThere 8 = .ok (.goto 4, 3) := by decide +kernel
theorem dX3_isThere_11 : decode cX3_isThere 11 = .ok (.iconst 0, 1) := by decide +kernel
theorem dX3_isThere_12 : decode cX3_isThere 12 = .ok (.ireturn, 1) := by decide +kernel
theorem dX4_begin_0 : decode cX4_begin 0 = .ok (.aload_n 0, 1) := by decide +kernel
theorem dX4_begin_1 : decode cX4_begin 1 = .ok (.iload_n 1, 1) := by decide +kernel
theorem dX4_begin_2 : decode cX4_begin 2 = .ok (.i2l, 1) := by decide +kernel
theorem dX4_begin_3 : decode cX4_begin 3 = .ok (.putfield 32, 3) := by decide +kernel
theorem dX4_begin_6 : decode cX4_begin 6 = .ok (.return_, 1) := by decide +kernel
theorem dX4_draw_0 : decode cX4_draw 0 = .ok (.aload_n 0, 1) := by decide +kernel
theorem dX4_draw_1 : decode cX4_draw 1 = .ok (.ldc2_w 40, 3) := by decide +kernel
theorem dX4_draw_4 : decode cX4_draw 4 = .ok (.aload_n 0, 1) := by decide +kernel
theorem dX4_draw_5 : decode cX4_draw 5 = .ok (.getfield 32, 3) := by decide +kernel
theorem dX4_draw_8 : decode cX4_draw 8 = .ok (.lmul, 1) := by decide +kernel
theorem dX4_draw_9 : decode cX4_draw 9 = .ok (.ldc2_w 42, 3) := by decide +kernel
theorem dX4_draw_12 : decode cX4_draw 12 = .ok (.ladd, 1) := by decide +kernel
theorem dX4_draw_13 : decode cX4_draw 13 = .ok (.ldc2_w 44, 3) := by decide +kernel
theorem dX4_draw_16 : decode cX4_draw 16 = .ok (.lrem, 1) := by decide +kernel
theorem dX4_draw_17 : decode cX4_draw 17 = .ok (.putfield 32, 3) := by decide +kernel
theorem dX4_draw_20 : decode cX4_draw 20 = .ok (.aload_n 0, 1) := by decide +kernel
theorem dX4_draw_21 : decode cX4_draw 21 = .ok (.getfield 32, 3) := by decide +kernel
theorem dX4_draw_24 : decode cX4_draw 24 = .ok (.ldc2_w 46, 3) := by decide +kernel
theorem dX4_draw_27 : decode cX4_draw 27 = .ok (.ldiv, 1) := by decide +kernel
theorem dX4_draw_28 : decode cX4_draw 28 = .ok (.ldc2_w 48, 3) := by decide +kernel
theorem dX4_draw_31 : decode cX4_draw 31 = .ok (.lrem, 1) := by decide +kernel
theorem dX4_draw_32 : decode cX4_draw 32 = .ok (.l2i, 1) := by decide +kernel
theorem dX4_draw_33 : decode cX4_draw 33 = .ok (.ireturn, 1) := by decide +kernel
theorem dX4_drawDay_0 : decode cX4_drawDay 0 = .ok (.iconst 0, 1) := by decide +kernel
theorem dX4_drawDay_1 : decode cX4_drawDay 1 = .ok (.istore 4, 2) := by decide +kernel
theorem dX4_drawDay_3 : decode cX4_drawDay 3 = .ok (.iconst 0, 1) := by decide +kernel
theorem dX4_drawDay_4 : decode cX4_drawDay 4 = .ok (.istore 5, 2) := by decide +kernel
theorem dX4_drawDay_6 : decode cX4_drawDay 6 = .ok (.iload 5, 2) := by decide +kernel
theorem dX4_drawDay_8 : decode cX4_drawDay 8 = .ok (.bipush 6, 2) := by decide +kernel
theorem dX4_drawDay_10 : decode cX4_drawDay 10 = .ok (.if_icmp .ge 62, 3) := by decide +kernel
theorem dX4_drawDay_13 : decode cX4_drawDay 13 = .ok (.aload_n 0, 1) := by decide +kernel
theorem dX4_drawDay_14 : decode cX4_drawDay 14 = .ok (.getfield 9, 3) := by decide +kernel
theorem dX4_drawDay_17 : decode cX4_drawDay 17 = .ok (.iload 5, 2) := by decide +kernel
theorem dX4_drawDay_19 : decode cX4_drawDay 19 = .ok (.aload_n 1, 1) := by decide +kernel
theorem dX4_drawDay_20 : decode cX4_drawDay 20 = .ok (.iload 5, 2) := by decide +kernel
theorem dX4_drawDay_22 : decode cX4_drawDay 22 = .ok (.iaload, 1) := by decide +kernel
theorem dX4_drawDay_23 : decode cX4_drawDay 23 = .ok (.iastore, 1) := by decide +kernel
theorem dX4_drawDay_24 : decode cX4_drawDay 24 = .ok (.iload_n 2, 1) := by decide +kernel
theorem dX4_drawDay_25 : decode cX4_drawDay 25 = .ok (.iload 5, 2) := by decide +kernel
theorem dX4_drawDay_27 : decode cX4_drawDay 27 = .ok (.invokestatic 22, 3) := by decide +kernel
theorem dX4_drawDay_30 : decode cX4_drawDay 30 = .ok (.ifCond .eq 36, 3) := by decide +kernel
theorem dX4_drawDay_33 : decode cX4_drawDay 33 = .ok (.aload_n 1, 1) := by decide +kernel
theorem dX4_drawDay_34 : decode cX4_drawDay 34 = .ok (.iload 5, 2) := by decide +kernel
theorem dX4_drawDay_36 : decode cX4_drawDay 36 = .ok (.iaload, 1) := by decide +kernel
theorem dX4_drawDay_37 : decode cX4_drawDay 37 = .ok (.sipush 10000, 3) := by decide +kernel
theorem dX4_drawDay_40 : decode cX4_drawDay 40 = .ok (.if_icmp .eq 26, 3) := by decide +kernel
theorem dX4_drawDay_43 : decode cX4_drawDay 43 = .ok (.aload_n 0, 1) := by decide +kernel
theorem dX4_drawDay_44 : decode cX4_drawDay 44 = .ok (.invokevirtual 36, 3) := by decide +kernel
theorem dX4_drawDay_47 : decode cX4_drawDay 47 = .ok (.iload_n 3, 1) := by decide +kernel
theorem dX4_drawDay_48 : decode cX4_drawDay 48 = .ok (.if_icmp .ge 18, 3) := by decide +kernel
theorem dX4_drawDay_51 : decode cX4_drawDay 51 = .ok (.aload_n 0, 1) := by decide +kernel
theorem dX4_drawDay_52 : decode cX4_drawDay 52 = .ok (.getfield 9, 3) := by decide +kernel
theorem dX4_drawDay_55 : decode cX4_drawDay 55 = .ok (.iload 5, 2) := by decide +kernel
theorem dX4_drawDay_57 : decode cX4_drawDay 57 = .ok (.dup2, 1) := by decide +kernel
theorem dX4_drawDay_58 : decode cX4_drawDay 58 = .ok (.iaload, 1) := by decide +kernel
theorem dX4_drawDay_59 : decode cX4_drawDay 59 = .ok (.bipush 30, 2) := by decide +kernel
theorem dX4_drawDay_61 : decode cX4_drawDay 61 = .ok (.iadd, 1) := by decide +kernel
theorem dX4_drawDay_62 : decode cX4_drawDay 62 = .ok (.iastore, 1) := by decide +kernel
theorem dX4_drawDay_63 : decode cX4_drawDay 63 = .ok (.iconst 1, 1) := by decide +kernel
theorem dX4_drawDay_64 : decode cX4_drawDay 64 = .ok (.istore 4, 2) := by decide +kernel
theorem dX4_drawDay_66 : decode cX4_drawDay 66 = .ok (.iinc 5 1, 3) := by decide +kernel
theorem dX4_drawDay_69 : decode cX4_drawDay 69 = .ok (.goto (-63), 3) := by decide +kernel
theorem dX4_drawDay_72 : decode cX4_drawDay 72 = .ok (.iload 4, 2) := by decide +kernel
theorem dX4_drawDay_74 : decode cX4_drawDay 74 = .ok (.ireturn, 1) := by decide +kernel
theorem dX4_init_0 : decode cX4_init 0 = .ok (.aload_n 0, 1) := by decide +kernel
theorem dX4_init_1 : decode cX4_init 1 = .ok (.invokespecial 3, 3) := by decide +kernel
theorem dX4_init_4 : decode cX4_init 4 = .ok (.aload_n 0, 1) := by decide +kernel
theorem dX4_init_5 : decode cX4_init 5 = .ok (.bipush 6, 2) := by decide +kernel
theorem dX4_init_7 : decode cX4_init 7 = .ok (.newarray .int, 2) := by decide +kernel
theorem dX4_init_9 : decode cX4_init 9 = .ok (.putfield 9, 3) := by decide +kernel
theorem dX4_init_12 : decode cX4_init 12 = .ok (.return_, 1) := by decide +kernel
theorem dX4_tenthsBy_0 : decode cX4_tenthsBy 0 = .ok (.iload_n 0, 1) := by decide +kernel
theorem dX4_tenthsBy_1 : decode cX4_tenthsBy 1 = .ok (.iload_n 2, 1) := by decide +kernel
theorem dX4_tenthsBy_2 : decode cX4_tenthsBy 2 = .ok (.if_icmp .le 5, 3) := by decide +kernel
theorem dX4_tenthsBy_5 : decode cX4_tenthsBy 5 = .ok (.iconst 0, 1) := by decide +kernel
theorem dX4_tenthsBy_6 : decode cX4_tenthsBy 6 = .ok (.ireturn, 1) := by decide +kernel
theorem dX4_tenthsBy_7 : decode cX4_tenthsBy 7 = .ok (.iload_n 0, 1) := by decide +kernel
theorem dX4_tenthsBy_8 : decode cX4_tenthsBy 8 = .ok (.bipush 30, 2) := by decide +kernel
theorem dX4_tenthsBy_10 : decode cX4_tenthsBy 10 = .ok (.iadd, 1) := by decide +kernel
theorem dX4_tenthsBy_11 : decode cX4_tenthsBy 11 = .ok (.iload_n 2, 1) := by decide +kernel
theorem dX4_tenthsBy_12 : decode cX4_tenthsBy 12 = .ok (.if_icmp .le 10, 3) := by decide +kernel
theorem dX4_tenthsBy_15 : decode cX4_tenthsBy 15 = .ok (.bipush 10, 2) := by decide +kernel
theorem dX4_tenthsBy_17 : decode cX4_tenthsBy 17 = .ok (.iload_n 1, 1) := by decide +kernel
theorem dX4_tenthsBy_18 : decode cX4_tenthsBy 18 = .ok (.isub, 1) := by decide +kernel
theorem dX4_tenthsBy_19 : decode cX4_tenthsBy 19 = .ok (.goto 5, 3) := by decide +kernel
theorem dX4_tenthsBy_22 : decode cX4_tenthsBy 22 = .ok (.bipush 10, 2) := by decide +kernel
theorem dX4_tenthsBy_24 : decode cX4_tenthsBy 24 = .ok (.ireturn, 1) := by decide +kernel
theorem dX4_weigh_0 : decode cX4_weigh 0 = .ok (.aload_n 0, 1) := by decide +kernel
theorem dX4_weigh_1 : decode cX4_weigh 1 = .ok (.iconst 1, 1) := by decide +kernel
theorem dX4_weigh_2 : decode cX4_weigh 2 = .ok (.putfield 15, 3) := by decide +kernel
theorem dX4_weigh_5 : decode cX4_weigh 5 = .ok (.aload_n 0, 1) := by decide +kernel
theorem dX4_weigh_6 : decode cX4_weigh 6 = .ok (.iconst 1, 1) := by decide +kernel
theorem dX4_weigh_7 : decode cX4_weigh 7 = .ok (.putfield 19, 3) := by decide +kernel
theorem dX4_weigh_10 : decode cX4_weigh 10 = .ok (.iconst 0, 1) := by decide +kernel
theorem dX4_weigh_11 : decode cX4_weigh 11 = .ok (.istore 5, 2) := by decide +kernel
theorem dX4_weigh_13 : decode cX4_weigh 13 = .ok (.iload 5, 2) := by decide +kernel
theorem dX4_weigh_15 : decode cX4_weigh 15 = .ok (.bipush 6, 2) := by decide +kernel
theorem dX4_weigh_17 : decode cX4_weigh 17 = .ok (.if_icmp .ge 48, 3) := by decide +kernel
theorem dX4_weigh_20 : decode cX4_weigh 20 = .ok (.iload_n 2, 1) := by decide +kernel
theorem dX4_weigh_21 : decode cX4_weigh 21 = .ok (.iload 5, 2) := by decide +kernel
theorem dX4_weigh_23 : decode cX4_weigh 23 = .ok (.invokestatic 22, 3) := by decide +kernel
theorem dX4_weigh_26 : decode cX4_weigh 26 = .ok (.ifCond .eq 33, 3) := by decide +kernel
theorem dX4_weigh_29 : decode cX4_weigh 29 = .ok (.aload_n 0, 1) := by decide +kernel
theorem dX4_weigh_30 : decode cX4_weigh 30 = .ok (.dup, 1) := by decide +kernel
theorem dX4_weigh_31 : decode cX4_weigh 31 = .ok (.getfield 15, 3) := by decide +kernel
theorem dX4_weigh_34 : decode cX4_weigh 34 = .ok (.aload_n 1, 1) := by decide +kernel
theorem dX4_weigh_35 : decode cX4_weigh 35 = .ok (.iload 5, 2) := by decide +kernel
theorem dX4_weigh_37 : decode cX4_weigh 37 = .ok (.iaload, 1) := by decide +kernel
theorem dX4_weigh_38 : decode cX4_weigh 38 = .ok (.iload_n 3, 1) := by decide +kernel
theorem dX4_weigh_39 : decode cX4_weigh 39 = .ok (.iload 4, 2) := by decide +kernel
theorem dX4_weigh_41 : decode cX4_weigh 41 = .ok (.invokestatic 28, 3) := by decide +kernel
theorem dX4_weigh_44 : decode cX4_weigh 44 = .ok (.imul, 1) := by decide +kernel
theorem dX4_weigh_45 : decode cX4_weigh 45 = .ok (.putfield 15, 3) := by decide +kernel
theorem dX4_weigh_48 : decode cX4_weigh 48 = .ok (.aload_n 0, 1) := by decide +kernel
theorem dX4_weigh_49 : decode cX4_weigh 49 = .ok (.dup, 1) := by decide +kernel
theorem dX4_weigh_50 : decode cX4_weigh 50 = .ok (.getfield 19, 3) := by decide +kernel
theorem dX4_weigh_53 : decode cX4_weigh 53 = .ok (.bipush 10, 2) := by decide +kernel
theorem dX4_weigh_55 : decode cX4_weigh 55 = .ok (.imul, 1) := by decide +kernel
theorem dX4_weigh_56 : decode cX4_weigh 56 = .ok (.putfield 19, 3) := by decide +kernel
theorem dX4_weigh_59 : decode cX4_weigh 59 = .ok (.iinc 5 1, 3) := by decide +kernel
theorem dX4_weigh_62 : decode cX4_weigh 62 = .ok (.goto (-49), 3) := by decide +kernel
theorem dX4_weigh_65 : decode cX4_weigh 65 = .ok (.return_, 1) := by decide +kernel
theorem dX5_fillAlive_0 : decode cX5_fillAlive 0 = .ok (.aload_n 1, 1) := by decide +kernel
theorem dX5_fillAlive_1 : decode cX5_fillAlive 1 = .ok (.getfield 58, 3) := by decide +kernel
theorem dX5_fillAlive_4 : decode cX5_fillAlive 4 = .ok (.iload_n 2, 1) := by decide +kernel
theorem dX5_fillAlive_5 : decode cX5_fillAlive 5 = .ok (.iaload, 1) := by decide +kernel
theorem dX5_fillAlive_6 : decode cX5_fillAlive 6 = .ok (.iconst 1, 1) := by decide +kernel
theorem dX5_fillAlive_7 : decode cX5_fillAlive 7 = .ok (.if_icmp .ne 7, 3) := by decide +kernel
theorem dX5_fillAlive_10 : decode cX5_fillAlive 10 = .ok (.iconst 1, 1) := by decide +kernel
theorem dX5_fillAlive_11 : decode cX5_fillAlive 11 = .ok (.goto 4, 3) := by decide +kernel
theorem dX5_fillAlive_14 : decode cX5_fillAlive 14 = .ok (.iconst 0, 1) := by decide +kernel
theorem dX5_fillAlive_15 : decode cX5_fillAlive 15 = .ok (.istore_n 3, 1) := by decide +kernel
theorem dX5_fillAlive_16 : decode cX5_fillAlive 16 = .ok (.iconst 0, 1) := by decide +kernel
theorem dX5_fillAlive_17 : decode cX5_fillAlive 17 = .ok (.istore 4, 2) := by decide +kernel
theorem dX5_fillAlive_19 : decode cX5_fillAlive 19 = .ok (.iload 4, 2) := by decide +kernel
theorem dX5_fillAlive_21 : decode cX5_fillAlive 21 = .ok (.aload_n 0, 1) := by decide +kernel
theorem dX5_fillAlive_22 : decode cX5_fillAlive 22 = .ok (.getfield 26, 3) := by decide +kernel
theorem dX5_fillAlive_25 : decode cX5_fillAlive 25 = .ok (.if_icmp .ge 77, 3) := by decide +kernel
theorem dX5_fillAlive_28 : decode cX5_fillAlive 28 = .ok (.iconst 0, 1) := by decide +kernel
theorem dX5_fillAlive_29 : decode cX5_fillAlive 29 = .ok (.istore 5, 2) := by decide +kernel
theorem dX5_fillAlive_31 : decode cX5_fillAlive 31 = .ok (.iload 5, 2) := by decide +kernel
theorem dX5_fillAlive_33 : decode cX5_fillAlive 33 = .ok (.aload_n 1, 1) := by decide +kernel
theorem dX5_fillAlive_34 : decode cX5_fillAlive 34 = .ok (.getfield 51, 3) := by decide +kernel
theorem dX5_fillAlive_37 : decode cX5_fillAlive 37 = .ok (.if_icmp .ge 42, 3) := by decide +kernel
theorem dX5_fillAlive_40 : decode cX5_fillAlive 40 = .ok (.aload_n 1, 1) := by decide +kernel
theorem dX5_fillAlive_41 : decode cX5_fillAlive 41 = .ok (.iload 5, 2) := by decide +kernel
theorem dX5_fillAlive_43 : decode cX5_fillAlive 43 = .ok (.iload_n 2, 1) := by decide +kernel
theorem dX5_fillAlive_44 : decode cX5_fillAlive 44 = .ok (.iload 4, 2) := by decide +kernel
theorem dX5_fillAlive_46 : decode cX5_fillAlive 46 = .ok (.invokevirtual 54, 3) := by decide +kernel
theorem dX5_fillAlive_49 : decode cX5_fillAlive 49 = .ok (.istore 6, 2) := by decide +kernel
theorem dX5_fillAlive_51 : decode cX5_fillAlive 51 = .ok (.iload 6, 2) := by decide +kernel
theorem dX5_fillAlive_53 : decode cX5_fillAlive 53 = .ok (.iconst 3, 1) := by decide +kernel
theorem dX5_fillAlive_54 : decode cX5_fillAlive 54 = .ok (.if_icmp .eq 13, 3) := by decide +kernel
theorem dX5_fillAlive_57 : decode cX5_fillAlive 57 = .ok (.iload_n 3, 1) := by decide +kernel
theorem dX5_fillAlive_58 : decode cX5_fillAlive 58 = .ok (.ifCond .eq 13, 3) := by decide +kernel
theorem dX5_fillAlive_61 : decode cX5_fillAlive 61 = .ok (.iload 6, 2) := by decide +kernel
theorem dX5_fillAlive_63 : decode cX5_fillAlive 63 = .ok (.iconst 4, 1) := by decide +kernel
theorem dX5_fillAlive_64 : decode cX5_fillAlive 64 = .ok (.if_icmp .eq 7, 3) := by decide +kernel
theorem dX5_fillAlive_67 : decode cX5_fillAlive 67 = .ok (.iconst 1, 1) := by decide +kernel
theorem dX5_fillAlive_68 : decode cX5_fillAlive 68 = .ok (.goto 4, 3) := by decide +kernel
theorem dX5_fillAlive_71 : decode cX5_fillAlive 71 = .ok (.iconst 0, 1) := by decide +kernel
theorem dX5_fillAlive_72 : decode cX5_fillAlive 72 = .ok (.istore_n 3, 1) := by decide +kernel
theorem dX5_fillAlive_73 : decode cX5_fillAlive 73 = .ok (.iinc 5 1, 3) := by decide +kernel
theorem dX5_fillAlive_76 : decode cX5_fillAlive 76 = .ok (.goto (-45), 3) := by decide +kernel
theorem dX5_fillAlive_79 : decode cX5_fillAlive 79 = .ok (.iload_n 3, 1) := by decide +kernel
theorem dX5_fillAlive_80 : decode cX5_fillAlive 80 = .ok (.ifCond .ne 16, 3) := by decide +kernel
theorem dX5_fillAlive_83 : decode cX5_fillAlive 83 = .ok (.aload_n 0, 1) := by decide +kernel
theorem dX5_fillAlive_84 : decode cX5_fillAlive 84 = .ok (.getfield 16, 3) := by decide +kernel
theorem dX5_fillAlive_87 : decode cX5_fillAlive 87 = .ok (.iload 4, 2) := by decide +kernel
theorem dX5_fillAlive_89 : decode cX5_fillAlive 89 = .ok (.dup2, 1) := by decide +kernel
theorem dX5_fillAlive_90 : decode cX5_fillAlive 90 = .ok (.iaload, 1) := by decide +kernel
theorem dX5_fillAlive_91 : decode cX5_fillAlive 91 = .ok (.iconst 1, 1) := by decide +kernel
theorem dX5_fillAlive_92 : decode cX5_fillAlive 92 = .ok (.iload_n 2, 1) := by decide +kernel
theorem dX5_fillAlive_93 : decode cX5_fillAlive 93 = .ok (.ishl, 1) := by decide +kernel
theorem dX5_fillAlive_94 : decode cX5_fillAlive 94 = .ok (.ior, 1) := by decide +kernel
theorem dX5_fillAlive_95 : decode cX5_fillAlive 95 = .ok (.iastore, 1) := by decide +kernel
theorem dX5_fillAlive_96 : decode cX5_fillAlive 96 = .ok (.iinc 4 1, 3) := by decide +kernel
theorem dX5_fillAlive_99 : decode cX5_fillAlive 99 = .ok (.goto (-80), 3) := by decide +kernel
theorem dX5_fillAlive_102 : decode cX5_fillAlive 102 = .ok (.return_, 1) := by decide +kernel
theorem dX5_fillLates_0 : decode cX5_fillLates 0 = .ok (.iconst 0, 1) := by decide +kernel
theorem dX5_fillLates_1 : decode cX5_fillLates 1 = .ok (.iload_n 2, 1) := by decide +kernel
theorem dX5_fillLates_2 : decode cX5_fillLates 2 = .ok (.invokestatic 39, 3) := by decide +kernel
theorem dX5_fillLates_5 : decode cX5_fillLates 5 = .ok (.istore 5, 2) := by decide +kernel
theorem dX5_fillLates_7 : decode cX5_fillLates 7 = .ok (.iload_n 2, 1) := by decide +kernel
theorem dX5_fillLates_8 : decode cX5_fillLates 8 = .ok (.iconst (-1), 1) := by decide +kernel
theorem dX5_fillLates_9 : decode cX5_fillLates 9 = .ok (.if_icmp .ne 12, 3) := by decide +kernel
theorem dX5_fillLates_12 : decode cX5_fillLates 12 = .ok (.aload_n 0, 1) := by decide +kernel
theorem dX5_fillLates_13 : decode cX5_fillLates 13 = .ok (.getfield 45, 3) := by decide +kernel
theorem dX5_fillLates_16 : decode cX5_fillLates 16 = .ok (.iload_n 1, 1) := by decide +kernel
theorem dX5_fillLates_17 : decode cX5_fillLates 17 = .ok (.iaload, 1) := by decide +kernel
theorem dX5_fillLates_18 : decode cX5_fillLates 18 = .ok (.goto 4, 3) := by decide +kernel
theorem dX5_fillLates_21 : decode cX5_fillLates 21 = .ok (.iconst 0, 1) := by decide +kernel
theorem dX5_fillLates_22 : decode cX5_fillLates 22 = .ok (.istore 6, 2) := by decide +kernel
theorem dX5_fillLates_24 : decode cX5_fillLates 24 = .ok (.aload_n 0, 1) := by decide +kernel
theorem dX5_fillLates_25 : decode cX5_fillLates 25 = .ok (.getfield 48, 3) := by decide +kernel
theorem dX5_fillLates_28 : decode cX5_fillLates 28 = .ok (.iload_n 1, 1) := by decide +kernel
theorem dX5_fillLates_29 : decode cX5_fillLates 29 = .ok (.iaload, 1) := by decide +kernel
theorem dX5_fillLates_30 : decode cX5_fillLates 30 = .ok (.istore 7, 2) := by decide +kernel
theorem dX5_fillLates_32 : decode cX5_fillLates 32 = .ok (.iconst 0, 1) := by decide +kernel
theorem dX5_fillLates_33 : decode cX5_fillLates 33 = .ok (.istore 8, 2) := by decide +kernel
theorem dX5_fillLates_35 : decode cX5_fillLates 35 = .ok (.iload 5, 2) := by decide +kernel
theorem dX5_fillLates_37 : decode cX5_fillLates 37 = .ok (.istore 9, 2) := by decide +kernel
theorem dX5_fillLates_39 : decode cX5_fillLates 39 = .ok (.iload 9, 2) := by decide +kernel
theorem dX5_fillLates_41 : decode cX5_fillLates 41 = .ok (.aload_n 0, 1) := by decide +kernel
theorem dX5_fillLates_42 : decode cX5_fillLates 42 = .ok (.getfield 20, 3) := by decide +kernel
theorem dX5_fillLates_45 : decode cX5_fillLates 45 = .ok (.if_icmp .ge 135, 3) := by decide +kernel
theorem dX5_fillLates_48 : decode cX5_fillLates 48 = .ok (.iload 6, 2) := by decide +kernel
theorem dX5_fillLates_50 : decode cX5_fillLates 50 = .ok (.iload 9, 2) := by decide +kernel
theorem dX5_fillLates_52 : decode cX5_fillLates 52 = .ok (.iload 5, 2) := by decide +kernel
theorem dX5_fillLates_54 : decode cX5_fillLates 54 = .ok (.if_icmp .le 8, 3) := by decide +kernel
theorem dX5_fillLates_57 : decode cX5_fillLates 57 = .ok (.iload 7, 2) := by decide +kernel
theorem dX5_fillLates_59 : decode cX5_fillLates 59 = .ok (.goto 4, 3) := by decide +kernel
theorem dX5_fillLates_62 : decode cX5_fillLates 62 = .ok (.iconst 0, 1) := by decide +kernel
theorem dX5_fillLates_63 : decode cX5_fillLates 63 = .ok (.iadd, 1) := by decide +kernel
theorem dX5_fillLates_64 : decode cX5_fillLates 64 = .ok (.istore 6, 2) := by decide +kernel
theorem dX5_fillLates_66 : decode cX5_fillLates 66 = .ok (.iload 9, 2) := by decide +kernel
theorem dX5_fillLates_68 : decode cX5_fillLates 68 = .ok (.iload_n 2, 1) := by decide +kernel
theorem dX5_fillLates_69 : decode cX5_fillLates 69 = .ok (.if_icmp .ne 7, 3) := by decide +kernel
theorem dX5_fillLates_72 : decode cX5_fillLates 72 = .ok (.iconst 0, 1) := by decide +kernel
theorem dX5_fillLates_73 : decode cX5_fillLates 73 = .ok (.goto 7, 3) := by decide +kernel
theorem dX5_fillLates_76 : decode cX5_fillLates 76 = .ok (.aload_n 0, 1) := by decide +kernel
theorem dX5_fillLates_77 : decode cX5_fillLates 77 = .ok (.getfield 51, 3) := by decide +kernel
theorem dX5_fillLates_80 : decode cX5_fillLates 80 = .ok (.istore 10, 2) := by decide +kernel
theorem dX5_fillLates_82 : decode cX5_fillLates 82 = .ok (.iconst 0, 1) := by decide +kernel
theorem dX5_fillLates_83 : decode cX5_fillLates 83 = .ok (.istore 11, 2) := by decide +kernel
theorem dX5_fillLates_85 : decode cX5_fillLates 85 = .ok (.iload 11, 2) := by decide +kernel
theorem dX5_fillLates_87 : decode cX5_fillLates 87 = .ok (.iload 10, 2) := by decide +kernel
theorem dX5_fillLates_89 : decode cX5_fillLates 89 = .ok (.if_icmp .ge 63, 3) := by decide +kernel
theorem dX5_fillLates_92 : decode cX5_fillLates 92 = .ok (.aload_n 0, 1) := by decide +kernel
theorem dX5_fillLates_93 : decode cX5_fillLates 93 = .ok (.iload 11, 2) := by decide +kernel
theorem dX5_fillLates_95 : decode cX5_fillLates 95 = .ok (.iload_n 1, 1) := by decide +kernel
theorem dX5_fillLates_96 : decode cX5_fillLates 96 = .ok (.iload 9, 2) := by decide +kernel
theorem dX5_fillLates_98 : decode cX5_fillLates 98 = .ok (.invokevirtual 54, 3) := by decide +kernel
theorem dX5_fillLates_101 : decode cX5_fillLates 101 = .ok (.istore 12, 2) := by decide +kernel
theorem dX5_fillLates_103 : decode cX5_fillLates 103 = .ok (.iload 12, 2) := by decide +kernel
theorem dX5_fillLates_105 : decode cX5_fillLates 105 = .ok (.ifCond .ne 20, 3) := by decide +kernel
theorem dX5_fillLates_108 : decode cX5_fillLates 108 = .ok (.iconst 0, 1) := by decide +kernel
theorem dX5_fillLates_109 : decode cX5_fillLates 109 = .ok (.istore 6, 2) := by decide +kernel
theorem dX5_fillLates_111 : decode cX5_fillLates 111 = .ok (.aload_n 0, 1) := by decide +kernel
theorem dX5_fillLates_112 : decode cX5_fillLates 112 = .ok (.getfield 48, 3) := by decide +kernel
theorem dX5_fillLates_115 : decode cX5_fillLates 115 = .ok (.iload_n 1, 1) := by decide +kernel
theorem dX5_fillLates_116 : decode cX5_fillLates 116 = .ok (.iaload, 1) := by decide +kernel
theorem dX5_fillLates_117 : decode cX5_fillLates 117 = .ok (.istore 7, 2) := by decide +kernel
theorem dX5_fillLates_119 : decode cX5_fillLates 119 = .ok (.iconst 0, 1) := by decide +kernel
theorem dX5_fillLates_120 : decode cX5_fillLates 120 = .ok (.istore 8, 2) := by decide +kernel
theorem dX5_fillLates_122 : decode cX5_fillLates 122 = .ok (.goto 24, 3) := by decide +kernel
theorem dX5_fillLates_125 : decode cX5_fillLates 125 = .ok (.iload 12, 2) := by decide +kernel
theorem dX5_fillLates_127 : decode cX5_fillLates 127 = .ok (.iconst 1, 1) := by decide +kernel
theorem dX5_fillLates_128 : decode cX5_fillLates 128 = .ok (.if_icmp .ne 9, 3) := by decide +kernel
theorem dX5_fillLates_131 : decode cX5_fillLates 131 = .ok (.iconst 0, 1) := by decide +kernel
theorem dX5_fillLates_132 : decode cX5_fillLates 132 = .ok (.istore 7, 2) := by decide +kernel
theorem dX5_fillLates_134 : decode cX5_fillLates 134 = .ok (.goto 12, 3) := by decide +kernel
theorem dX5_fillLates_137 : decode cX5_fillLates 137 = .ok (.iload 12, 2) := by decide +kernel
theorem dX5_fillLates_139 : decode cX5_fillLates 139 = .ok (.iconst 2, 1) := by decide +kernel
theorem dX5_fillLates_140 : decode cX5_fillLates 140 = .ok (.if_icmp .ne 6, 3) := by decide +kernel
theorem dX5_fillLates_143 : decode cX5_fillLates 143 = .ok (.iconst 1, 1) := by decide +kernel
theorem dX5_fillLates_144 : decode cX5_fillLates 144 = .ok (.istore 8, 2) := by decide +kernel
theorem dX5_fillLates_146 : decode cX5_fillLates 146 = .ok (.iinc 11 1, 3) := by decide +kernel
theorem dX5_fillLates_149 : decode cX5_fillLates 149 = .ok (.goto (-64), 3) := by decide +kernel
theorem dX5_fillLates_152 : decode cX5_fillLates 152 = .ok (.aload_n 3, 1) := by decide +kernel
theorem dX5_fillLates_153 : decode cX5_fillLates 153 = .ok (.iload 4, 2) := by decide +kernel
theorem dX5_fillLates_155 : decode cX5_fillLates 155 = .ok (.iload 9, 2) := by decide +kernel
theorem dX5_fillLates_157 : decode cX5_fillLates 157 = .ok (.iadd, 1) := by decide +kernel
theorem dX5_fillLates_158 : decode cX5_fillLates 158 = .ok (.aaload, 1) := by decide +kernel
theorem dX5_fillLates_159 : decode cX5_fillLates 159 = .ok (.iload_n 1, 1) := by decide +kernel
theorem dX5_fillLates_160 : decode cX5_fillLates 160 = .ok (.iload 8, 2) := by decide +kernel
theorem dX5_fillLates_162 : decode cX5_fillLates 162 = .ok (.ifCond .eq 9, 3) := by decide +kernel
theorem dX5_fillLates_165 : decode cX5_fillLates 165 = .ok (.sipush 10000, 3) := by decide +kernel
theorem dX5_fillLates_168 : decode cX5_fillLates 168 = .ok (.goto 5, 3) := by decide +kernel
theorem dX5_fillLates_171 : decode cX5_fillLates 171 = .ok (.iload 6, 2) := by decide +kernel
theorem dX5_fillLates_173 : decode cX5_fillLates 173 = .ok (.iastore, 1) := by decide +kernel
theorem dX5_fillLates_174 : decode cX5_fillLates 174 = .ok (.iinc 9 1, 3) := by decide +kernel
theorem dX5_fillLates_177 : decode cX5_fillLates 177 = .ok (.goto (-138), 3) := by decide +kernel
theorem dX5_fillLates_180 : decode cX5_fillLates 180 = .ok (.return_, 1) := by decide +kernel
theorem dX5_has_0 : decode cX5_has 0 = .ok (.iload_n 0, 1) := by decide +kernel
theorem dX5_has_1 : decode cX5_has 1 = .ok (.iload_n 1, 1) := by decide +kernel
theorem dX5_has_2 : decode cX5_has 2 = .ok (.ishr, 1) := by decide +kernel
theorem dX5_has_3 : decode cX5_has 3 = .ok (.iconst 1, 1) := by decide +kernel
theorem dX5_has_4 : decode cX5_has 4 = .ok (.iand, 1) := by decide +kernel
theorem dX5_has_5 : decode cX5_has 5 = .ok (.iconst 1, 1) := by decide +kernel
theorem dX5_has_6 : decode cX5_has 6 = .ok (.if_icmp .ne 7, 3) := by decide +kernel
theorem dX5_has_9 : decode cX5_has 9 = .ok (.iconst 1, 1) := by decide +kernel
theorem dX5_has_10 : decode cX5_has 10 = .ok (.goto 4, 3) := by decide +kernel
theorem dX5_has_13 : decode cX5_has 13 = .ok (.iconst 0, 1) := by decide +kernel
theorem dX5_has_14 : decode cX5_has 14 = .ok (.ireturn, 1) := by decide +kernel
theorem dX5_init_0 : decode cX5_init 0 = .ok (.aload_n 0, 1) := by decide +kernel
theorem dX5_init_1 : decode cX5_init 1 = .ok (.invokespecial 3, 3) := by decide +kernel
theorem dX5_init_4 : decode cX5_init 4 = .ok (.aload_n 0, 1) := by decide +kernel
theorem dX5_init_5 : decode cX5_init 5 = .ok (.bipush 7, 2) := by decide +kernel
theorem dX5_init_7 : decode cX5_init 7 = .ok (.bipush 6, 2) := by decide +kernel
theorem dX5_init_9 : decode cX5_init 9 = .ok (.multianewarray 9 2, 4) := by decide +kernel
theorem dX5_init_13 : decode cX5_init 13 = .ok (.putfield 11, 3) := by decide +kernel
theorem dX5_init_16 : decode cX5_init 16 = .ok (.aload_n 0, 1) := by decide +kernel
theorem dX5_init_17 : decode cX5_init 17 = .ok (.bipush 7, 2) := by decide +kernel
theorem dX5_init_19 : decode cX5_init 19 = .ok (.newarray .int, 2) := by decide +kernel
theorem dX5_init_21 : decode cX5_init 21 = .ok (.putfield 16, 3) := by decide +kernel
theorem dX5_init_24 : decode cX5_init 24 = .ok (.return_, 1) := by decide +kernel
theorem dX5_isAlive_0 : decode cX5_isAlive 0 = .ok (.aload_n 0, 1) := by decide +kernel
theorem dX5_isAlive_1 : decode cX5_isAlive 1 = .ok (.getfield 16, 3) := by decide +kernel
theorem dX5_isAlive_4 : decode cX5_isAlive 4 = .ok (.iload_n 2, 1) := by decide +kernel
theorem dX5_isAlive_5 : decode cX5_isAlive 5 = .ok (.iaload, 1) := by decide +kernel
theorem dX5_isAlive_6 : decode cX5_isAlive 6 = .ok (.iload_n 1, 1) := by decide +kernel
theorem dX5_isAlive_7 : decode cX5_isAlive 7 = .ok (.invokestatic 61, 3) := by decide +kernel
theorem dX5_isAlive_10 : decode cX5_isAlive 10 = .ok (.ireturn, 1) := by decide +kernel
theorem dX5_lastOf_0 : decode cX5_lastOf 0 = .ok (.iconst (-1), 1) := by decide +kernel
theorem dX5_lastOf_1 : decode cX5_lastOf 1 = .ok (.istore_n 2, 1) := by decide +kernel
theorem dX5_lastOf_2 : decode cX5_lastOf 2 = .ok (.iconst 0, 1) := by decide +kernel
theorem dX5_lastOf_3 : decode cX5_lastOf 3 = .ok (.istore_n 3, 1) := by decide +kernel
theorem dX5_lastOf_4 : decode cX5_lastOf 4 = .ok (.iload_n 3, 1) := by decide +kernel
theorem dX5_lastOf_5 : decode cX5_lastOf 5 = .ok (.bipush 6, 2) := by decide +kernel
theorem dX5_lastOf_7 : decode cX5_lastOf 7 = .ok (.if_icmp .ge 46, 3) := by decide +kernel
theorem dX5_lastOf_10 : decode cX5_lastOf 10 = .ok (.iload_n 1, 1) := by decide +kernel
theorem dX5_lastOf_11 : decode cX5_lastOf 11 = .ok (.iload_n 3, 1) := by decide +kernel
theorem dX5_lastOf_12 : decode cX5_lastOf 12 = .ok (.ishr, 1) := by decide +kernel
theorem dX5_lastOf_13 : decode cX5_lastOf 13 = .ok (.iconst 1, 1) := by decide +kernel
theorem dX5_lastOf_14 : decode cX5_lastOf 14 = .ok (.iand, 1) := by decide +kernel
theorem dX5_lastOf_15 : decode cX5_lastOf 15 = .ok (.iconst 1, 1) := by decide +kernel
theorem dX5_lastOf_16 : decode cX5_lastOf 16 = .ok (.if_icmp .ne 7, 3) := by decide +kernel
theorem dX5_lastOf_19 : decode cX5_lastOf 19 = .ok (.iconst 1, 1) := by decide +kernel
theorem dX5_lastOf_20 : decode cX5_lastOf 20 = .ok (.goto 4, 3) := by decide +kernel
theorem dX5_lastOf_23 : decode cX5_lastOf 23 = .ok (.iconst 0, 1) := by decide +kernel
theorem dX5_lastOf_24 : decode cX5_lastOf 24 = .ok (.istore 4, 2) := by decide +kernel
theorem dX5_lastOf_26 : decode cX5_lastOf 26 = .ok (.iload 4, 2) := by decide +kernel
theorem dX5_lastOf_28 : decode cX5_lastOf 28 = .ok (.ifCond .eq 19, 3) := by decide +kernel
theorem dX5_lastOf_31 : decode cX5_lastOf 31 = .ok (.iload_n 2, 1) := by decide +kernel
theorem dX5_lastOf_32 : decode cX5_lastOf 32 = .ok (.iconst (-1), 1) := by decide +kernel
theorem dX5_lastOf_33 : decode cX5_lastOf 33 = .ok (.if_icmp .eq 12, 3) := by decide +kernel
theorem dX5_lastOf_36 : decode cX5_lastOf 36 = .ok (.aload_n 0, 1) := by decide +kernel
theorem dX5_lastOf_37 : decode cX5_lastOf 37 = .ok (.iload_n 3, 1) := by decide +kernel
theorem dX5_lastOf_38 : decode cX5_lastOf 38 = .ok (.iaload, 1) := by decide +kernel
theorem dX5_lastOf_39 : decode cX5_lastOf 39 = .ok (.aload_n 0, 1) := by decide +kernel
theorem dX5_lastOf_40 : decode cX5_lastOf 40 = .ok (.iload_n 2, 1) := by decide +kernel
theorem dX5_lastOf_41 : decode cX5_lastOf 41 = .ok (.iaload, 1) := by decide +kernel
theorem dX5_lastOf_42 : decode cX5_lastOf 42 = .ok (.if_icmp .le 5, 3) := by decide +kernel
theorem dX5_lastOf_45 : decode cX5_lastOf 45 = .ok (.iload_n 3, 1) := by decide +kernel
theorem dX5_lastOf_46 : decode cX5_lastOf 46 = .ok (.istore_n 2, 1) := by decide +kernel
theorem dX5_lastOf_47 : decode cX5_lastOf 47 = .ok (.iinc 3 1, 3) := by decide +kernel
theorem dX5_lastOf_50 : decode cX5_lastOf 50 = .ok (.goto (-46), 3) := by decide +kernel
theorem dX5_lastOf_53 : decode cX5_lastOf 53 = .ok (.iload_n 2, 1) := by decide +kernel
theorem dX5_lastOf_54 : decode cX5_lastOf 54 = .ok (.ireturn, 1) := by decide +kernel
theorem dX5_lateOfRank_0 : decode cX5_lateOfRank 0 = .ok (.aload_n 0, 1) := by decide +kernel
theorem dX5_lateOfRank_1 : decode cX5_lateOfRank 1 = .ok (.iload_n 1, 1) := by decide +kernel
theorem dX5_lateOfRank_2 : decode cX5_lateOfRank 2 = .ok (.iload_n 2, 1) := by decide +kernel
theorem dX5_lateOfRank_3 : decode cX5_lateOfRank 3 = .ok (.invokevirtual 75, 3) := by decide +kernel
theorem dX5_lateOfRank_6 : decode cX5_lateOfRank 6 = .ok (.istore_n 3, 1) := by decide +kernel
theorem dX5_lateOfRank_7 : decode cX5_lateOfRank 7 = .ok (.iload_n 3, 1) := by decide +kernel
theorem dX5_lateOfRank_8 : decode cX5_lateOfRank 8 = .ok (.iconst (-1), 1) := by decide +kernel
theorem dX5_lateOfRank_9 : decode cX5_lateOfRank 9 = .ok (.if_icmp .ne 9, 3) := by decide +kernel
theorem dX5_lateOfRank_12 : decode cX5_lateOfRank 12 = .ok (.sipush 10000, 3) := by decide +kernel
theorem dX5_lateOfRank_15 : decode cX5_lateOfRank 15 = .ok (.goto 11, 3) := by decide +kernel
theorem dX5_lateOfRank_18 : decode cX5_lateOfRank 18 = .ok (.aload_n 0, 1) := by decide +kernel
theorem dX5_lateOfRank_19 : decode cX5_lateOfRank 19 = .ok (.getfield 11, 3) := by decide +kernel
theorem dX5_lateOfRank_22 : decode cX5_lateOfRank 22 = .ok (.iload_n 1, 1) := by decide +kernel
theorem dX5_lateOfRank_23 : decode cX5_lateOfRank 23 = .ok (.aaload, 1) := by decide +kernel
theorem dX5_lateOfRank_24 : decode cX5_lateOfRank 24 = .ok (.iload_n 3, 1) := by decide +kernel
theorem dX5_lateOfRank_25 : decode cX5_lateOfRank 25 = .ok (.iaload, 1) := by decide +kernel
theorem dX5_lateOfRank_26 : decode cX5_lateOfRank 26 = .ok (.ireturn, 1) := by decide +kernel
theorem dX5_noonOf_0 : decode cX5_noonOf 0 = .ok (.aload_n 0, 1) := by decide +kernel
theorem dX5_noonOf_1 : decode cX5_noonOf 1 = .ok (.iload_n 1, 1) := by decide +kernel
theorem dX5_noonOf_2 : decode cX5_noonOf 2 = .ok (.invokestatic 68, 3) := by decide +kernel
theorem dX5_noonOf_5 : decode cX5_noonOf 5 = .ok (.istore_n 2, 1) := by decide +kernel
theorem dX5_noonOf_6 : decode cX5_noonOf 6 = .ok (.iload_n 2, 1) := by decide +kernel
theorem dX5_noonOf_7 : decode cX5_noonOf 7 = .ok (.iconst (-1), 1) := by decide +kernel
theorem dX5_noonOf_8 : decode cX5_noonOf 8 = .ok (.if_icmp .ne 7, 3) := by decide +kernel
theorem dX5_noonOf_11 : decode cX5_noonOf 11 = .ok (.iconst 0, 1) := by decide +kernel
theorem dX5_noonOf_12 : decode cX5_noonOf 12 = .ok (.goto 6, 3) := by decide +kernel
theorem dX5_noonOf_15 : decode cX5_noonOf 15 = .ok (.aload_n 0, 1) := by decide +kernel
theorem dX5_noonOf_16 : decode cX5_noonOf 16 = .ok (.iload_n 2, 1) := by decide +kernel
theorem dX5_noonOf_17 : decode cX5_noonOf 17 = .ok (.iaload, 1) := by decide +kernel
theorem dX5_noonOf_18 : decode cX5_noonOf 18 = .ok (.ireturn, 1) := by decide +kernel
theorem dX5_rankOf_0 : decode cX5_rankOf 0 = .ok (.iconst 0, 1) := by decide +kernel
theorem dX5_rankOf_1 : decode cX5_rankOf 1 = .ok (.istore_n 3, 1) := by decide +kernel
theorem dX5_rankOf_2 : decode cX5_rankOf 2 = .ok (.iconst 0, 1) := by decide +kernel
theorem dX5_rankOf_3 : decode cX5_rankOf 3 = .ok (.istore 4, 2) := by decide +kernel
theorem dX5_rankOf_5 : decode cX5_rankOf 5 = .ok (.iload 4, 2) := by decide +kernel
theorem dX5_rankOf_7 : decode cX5_rankOf 7 = .ok (.bipush 6, 2) := by decide +kernel
theorem dX5_rankOf_9 : decode cX5_rankOf 9 = .ok (.if_icmp .ge 58, 3) := by decide +kernel
theorem dX5_rankOf_12 : decode cX5_rankOf 12 = .ok (.aload_n 0, 1) := by decide +kernel
theorem dX5_rankOf_13 : decode cX5_rankOf 13 = .ok (.getfield 11, 3) := by decide +kernel
theorem dX5_rankOf_16 : decode cX5_rankOf 16 = .ok (.iload_n 2, 1) := by decide +kernel
theorem dX5_rankOf_17 : decode cX5_rankOf 17 = .ok (.aaload, 1) := by decide +kernel
theorem dX5_rankOf_18 : decode cX5_rankOf 18 = .ok (.iload_n 1, 1) := by decide +kernel
theorem dX5_rankOf_19 : decode cX5_rankOf 19 = .ok (.iaload, 1) := by decide +kernel
theorem dX5_rankOf_20 : decode cX5_rankOf 20 = .ok (.aload_n 0, 1) := by decide +kernel
theorem dX5_rankOf_21 : decode cX5_rankOf 21 = .ok (.getfield 11, 3) := by decide +kernel
theorem dX5_rankOf_24 : decode cX5_rankOf 24 = .ok (.iload_n 2, 1) := by decide +kernel
theorem dX5_rankOf_25 : decode cX5_rankOf 25 = .ok (.aaload, 1) := by decide +kernel
theorem dX5_rankOf_26 : decode cX5_rankOf 26 = .ok (.iload 4, 2) := by decide +kernel
theorem dX5_rankOf_28 : decode cX5_rankOf 28 = .ok (.iaload, 1) := by decide +kernel
theorem dX5_rankOf_29 : decode cX5_rankOf 29 = .ok (.isub, 1) := by decide +kernel
theorem dX5_rankOf_30 : decode cX5_rankOf 30 = .ok (.istore 5, 2) := by decide +kernel
theorem dX5_rankOf_32 : decode cX5_rankOf 32 = .ok (.aload_n 0, 1) := by decide +kernel
theorem dX5_rankOf_33 : decode cX5_rankOf 33 = .ok (.iload 4, 2) := by decide +kernel
theorem dX5_rankOf_35 : decode cX5_rankOf 35 = .ok (.iload_n 2, 1) := by decide +kernel
theorem dX5_rankOf_36 : decode cX5_rankOf 36 = .ok (.invokevirtual 65, 3) := by decide +kernel
theorem dX5_rankOf_39 : decode cX5_rankOf 39 = .ok (.ifCond .eq 22, 3) := by decide +kernel
theorem dX5_rankOf_42 : decode cX5_rankOf 42 = .ok (.iload 5, 2) := by decide +kernel
theorem dX5_rankOf_44 : decode cX5_rankOf 44 = .ok (.ifCond .gt 14, 3) := by decide +kernel
theorem dX5_rankOf_47 : decode cX5_rankOf 47 = .ok (.iload 5, 2) := by decide +kernel
theorem dX5_rankOf_49 : decode cX5_rankOf 49 = .ok (.ifCond .ne 12, 3) := by decide +kernel
theorem dX5_rankOf_52 : decode cX5_rankOf 52 = .ok (.iload 4, 2) := by decide +kernel
theorem dX5_rankOf_54 : decode cX5_rankOf 54 = .ok (.iload_n 1, 1) := by decide +kernel
theorem dX5_rankOf_55 : decode cX5_rankOf 55 = .ok (.if_icmp .ge 6, 3) := by decide +kernel
theorem dX5_rankOf_58 : decode cX5_rankOf 58 = .ok (.iinc 3 1, 3) := by decide +kernel
theorem dX5_rankOf_61 : decode cX5_rankOf 61 = .ok (.iinc 4 1, 3) := by decide +kernel
theorem dX5_rankOf_64 : decode cX5_rankOf 64 = .ok (.goto (-59), 3) := by decide +kernel
theorem dX5_rankOf_67 : decode cX5_rankOf 67 = .ok (.iload_n 3, 1) := by decide +kernel
theorem dX5_rankOf_68 : decode cX5_rankOf 68 = .ok (.ireturn, 1) := by decide +kernel
theorem dX5_ranked_0 : decode cX5_ranked 0 = .ok (.iconst 0, 1) := by decide +kernel
theorem dX5_ranked_1 : decode cX5_ranked 1 = .ok (.istore_n 3, 1) := by decide +kernel
theorem dX5_ranked_2 : decode cX5_ranked 2 = .ok (.iload_n 3, 1) := by decide +kernel
theorem dX5_ranked_3 : decode cX5_ranked 3 = .ok (.bipush 6, 2) := by decide +kernel
theorem dX5_ranked_5 : decode cX5_ranked 5 = .ok (.if_icmp .ge 30, 3) := by decide +kernel
theorem dX5_ranked_8 : decode cX5_ranked 8 = .ok (.aload_n 0, 1) := by decide +kernel
theorem dX5_ranked_9 : decode cX5_ranked 9 = .ok (.iload_n 3, 1) := by decide +kernel
theorem dX5_ranked_10 : decode cX5_ranked 10 = .ok (.iload_n 1, 1) := by decide +kernel
theorem dX5_ranked_11 : decode cX5_ranked 11 = .ok (.invokevirtual 65, 3) := by decide +kernel
theorem dX5_ranked_14 : decode cX5_ranked 14 = .ok (.ifCond .eq 15, 3) := by decide +kernel
theorem dX5_ranked_17 : decode cX5_ranked 17 = .ok (.aload_n 0, 1) := by decide +kernel
theorem dX5_ranked_18 : decode cX5_ranked 18 = .ok (.iload_n 3, 1) := by decide +kernel
theorem dX5_ranked_19 : decode cX5_ranked 19 = .ok (.iload_n 1, 1) := by decide +kernel
theorem dX5_ranked_20 : decode cX5_ranked 20 = .ok (.invokevirtual 72, 3) := by decide +kernel
theorem dX5_ranked_23 : decode cX5_ranked 23 = .ok (.iload_n 2, 1) := by decide +kernel
theorem dX5_ranked_24 : decode cX5_ranked 24 = .ok (.if_icmp .ne 5, 3) := by decide +kernel
theorem dX5_ranked_27 : decode cX5_ranked 27 = .ok (.iload_n 3, 1) := by decide +kernel
theorem dX5_ranked_28 : decode cX5_ranked 28 = .ok (.ireturn, 1) := by decide +kernel
theorem dX5_ranked_29 : decode cX5_ranked 29 = .ok (.iinc 3 1, 3) := by decide +kernel
theorem dX5_ranked_32 : decode cX5_ranked 32 = .ok (.goto (-30), 3) := by decide +kernel
theorem dX5_ranked_35 : decode cX5_ranked 35 = .ok (.iconst (-1), 1) := by decide +kernel
theorem dX5_ranked_36 : decode cX5_ranked 36 = .ok (.ireturn, 1) := by decide +kernel
theorem dX5_settle_0 : decode cX5_settle 0 = .ok (.aload_n 0, 1) := by decide +kernel
theorem dX5_settle_1 : decode cX5_settle 1 = .ok (.aload_n 1, 1) := by decide +kernel
theorem dX5_settle_2 : decode cX5_settle 2 = .ok (.getfield 20, 3) := by decide +kernel
theorem dX5_settle_5 : decode cX5_settle 5 = .ok (.putfield 26, 3) := by decide +kernel
theorem dX5_settle_8 : decode cX5_settle 8 = .ok (.aload_n 0, 1) := by decide +kernel
theorem dX5_settle_9 : decode cX5_settle 9 = .ok (.aload_n 1, 1) := by decide +kernel
theorem dX5_settle_10 : decode cX5_settle 10 = .ok (.getfield 27, 3) := by decide +kernel
theorem dX5_settle_13 : decode cX5_settle 13 = .ok (.putfield 30, 3) := by decide +kernel
theorem dX5_settle_16 : decode cX5_settle 16 = .ok (.iconst 0, 1) := by decide +kernel
theorem dX5_settle_17 : decode cX5_settle 17 = .ok (.istore_n 2, 1) := by decide +kernel
theorem dX5_settle_18 : decode cX5_settle 18 = .ok (.iload_n 2, 1) := by decide +kernel
theorem dX5_settle_19 : decode cX5_settle 19 = .ok (.bipush 7, 2) := by decide +kernel
theorem dX5_settle_21 : decode cX5_settle 21 = .ok (.if_icmp .ge 16, 3) := by decide +kernel
theorem dX5_settle_24 : decode cX5_settle 24 = .ok (.aload_n 0, 1) := by decide +kernel
theorem dX5_settle_25 : decode cX5_settle 25 = .ok (.getfield 16, 3) := by decide +kernel
theorem dX5_settle_28 : decode cX5_settle 28 = .ok (.iload_n 2, 1) := by decide +kernel
theorem dX5_settle_29 : decode cX5_settle 29 = .ok (.iconst 0, 1) := by decide +kernel
theorem dX5_settle_30 : decode cX5_settle 30 = .ok (.iastore, 1) := by decide +kernel
theorem dX5_settle_31 : decode cX5_settle 31 = .ok (.iinc 2 1, 3) := by decide +kernel
theorem dX5_settle_34 : decode cX5_settle 34 = .ok (.goto (-16), 3) := by decide +kernel
theorem dX5_settle_37 : decode cX5_settle 37 = .ok (.iconst 0, 1) := by decide +kernel
theorem dX5_settle_38 : decode cX5_settle 38 = .ok (.istore_n 2, 1) := by decide +kernel
theorem dX5_settle_39 : decode cX5_settle 39 = .ok (.iload_n 2, 1) := by decide +kernel
theorem dX5_settle_40 : decode cX5_settle 40 = .ok (.aload_n 0, 1) := by decide +kernel
theorem dX5_settle_41 : decode cX5_settle 41 = .ok (.getfield 30, 3) := by decide +kernel
theorem dX5_settle_44 : decode cX5_settle 44 = .ok (.if_icmp .ge 26, 3) := by decide +kernel
theorem dX5_settle_47 : decode cX5_settle 47 = .ok (.aload_n 1, 1) := by decide +kernel
theorem dX5_settle_48 : decode cX5_settle 48 = .ok (.iload_n 2, 1) := by decide +kernel
theorem dX5_settle_49 : decode cX5_settle 49 = .ok (.iconst (-1), 1) := by decide +kernel
theorem dX5_settle_50 : decode cX5_settle 50 = .ok (.aload_n 0, 1) := by decide +kernel
theorem dX5_settle_51 : decode cX5_settle 51 = .ok (.getfield 11, 3) := by decide +kernel
theorem dX5_settle_54 : decode cX5_settle 54 = .ok (.iconst 0, 1) := by decide +kernel
theorem dX5_settle_55 : decode cX5_settle 55 = .ok (.invokestatic 31, 3) := by decide +kernel
theorem dX5_settle_58 : decode cX5_settle 58 = .ok (.aload_n 0, 1) := by decide +kernel
theorem dX5_settle_59 : decode cX5_settle 59 = .ok (.aload_n 1, 1) := by decide +kernel
theorem dX5_settle_60 : decode cX5_settle 60 = .ok (.iload_n 2, 1) := by decide +kernel
theorem dX5_settle_61 : decode cX5_settle 61 = .ok (.invokevirtual 35, 3) := by decide +kernel
theorem dX5_settle_64 : decode cX5_settle 64 = .ok (.iinc 2 1, 3) := by decide +kernel
theorem dX5_settle_67 : decode cX5_settle 67 = .ok (.goto (-28), 3) := by decide +kernel
theorem dX5_settle_70 : decode cX5_settle 70 = .ok (.return_, 1) := by decide +kernel
theorem dX5_strikes_0 : decode cX5_strikes 0 = .ok (.aload_n 0, 1) := by decide +kernel
theorem dX5_strikes_1 : decode cX5_strikes 1 = .ok (.iload_n 1, 1) := by decide +kernel
theorem dX5_strikes_2 : decode cX5_strikes 2 = .ok (.iload_n 2, 1) := by decide +kernel
theorem dX5_strikes_3 : decode cX5_strikes 3 = .ok (.invokevirtual 65, 3) := by decide +kernel
theorem dX5_strikes_6 : decode cX5_strikes 6 = .ok (.ifCond .eq 21, 3) := by decide +kernel
theorem dX5_strikes_9 : decode cX5_strikes 9 = .ok (.aload_n 0, 1) := by decide +kernel
theorem dX5_strikes_10 : decode cX5_strikes 10 = .ok (.getfield 11, 3) := by decide +kernel
theorem dX5_strikes_13 : decode cX5_strikes 13 = .ok (.iload_n 2, 1) := by decide +kernel
theorem dX5_strikes_14 : decode cX5_strikes 14 = .ok (.aaload, 1) := by decide +kernel
theorem dX5_strikes_15 : decode cX5_strikes 15 = .ok (.iload_n 1, 1) := by decide +kernel
theorem dX5_strikes_16 : decode cX5_strikes 16 = .ok (.iaload, 1) := by decide +kernel
theorem dX5_strikes_17 : decode cX5_strikes 17 = .ok (.sipush 10000, 3) := by decide +kernel
theorem dX5_strikes_20 : decode cX5_strikes 20 = .ok (.if_icmp .eq 7, 3) := by decide +kernel
theorem dX5_strikes_23 : decode cX5_strikes 23 = .ok (.iconst 1, 1) := by decide +kernel
theorem dX5_strikes_24 : decode cX5_strikes 24 = .ok (.goto 4, 3) := by decide +kernel
theorem dX5_strikes_27 : decode cX5_strikes 27 = .ok (.iconst 0, 1) := by decide +kernel
theorem dX5_strikes_28 : decode cX5_strikes 28 = .ok (.ireturn, 1) := by decide +kernel
theorem dX5_together_0 : decode cX5_together 0 = .ok (.iconst 0, 1) := by decide +kernel
theorem dX5_together_1 : decode cX5_together 1 = .ok (.istore_n 3, 1) := by decide +kernel
theorem dX5_together_2 : decode cX5_together 2 = .ok (.iconst 0, 1) := by decide +kernel
theorem dX5_together_3 : decode cX5_together 3 = .ok (.istore 4, 2) := by decide +kernel
theorem dX5_together_5 : decode cX5_together 5 = .ok (.iload 4, 2) := by decide +kernel
theorem dX5_together_7 : decode cX5_together 7 = .ok (.bipush 6, 2) := by decide +kernel
theorem dX5_together_9 : decode cX5_together 9 = .ok (.if_icmp .ge 46, 3) := by decide +kernel
theorem dX5_together_12 : decode cX5_together 12 = .ok (.aload_n 0, 1) := by decide +kernel
theorem dX5_together_13 : decode cX5_together 13 = .ok (.iload 4, 2) := by decide +kernel
theorem dX5_together_15 : decode cX5_together 15 = .ok (.iload_n 2, 1) := by decide +kernel
theorem dX5_together_16 : decode cX5_together 16 = .ok (.invokevirtual 65, 3) := by decide +kernel
theorem dX5_together_19 : decode cX5_together 19 = .ok (.ifCond .eq 30, 3) := by decide +kernel
theorem dX5_together_22 : decode cX5_together 22 = .ok (.aload_n 0, 1) := by decide +kernel
theorem dX5_together_23 : decode cX5_together 23 = .ok (.getfield 11, 3) := by decide +kernel
theorem dX5_together_26 : decode cX5_together 26 = .ok (.iload_n 2, 1) := by decide +kernel
theorem dX5_together_27 : decode cX5_together 27 = .ok (.aaload, 1) := by decide +kernel
theorem dX5_together_28 : decode cX5_together 28 = .ok (.iload 4, 2) := by decide +kernel
theorem dX5_together_30 : decode cX5_together 30 = .ok (.iaload, 1) := by decide +kernel
theorem dX5_together_31 : decode cX5_together 31 = .ok (.aload_n 0, 1) := by decide +kernel
theorem dX5_together_32 : decode cX5_together 32 = .ok (.getfield 11, 3) := by decide +kernel
theorem dX5_together_35 : decode cX5_together 35 = .ok (.iload_n 2, 1) := by decide +kernel
theorem dX5_together_36 : decode cX5_together 36 = .ok (.aaload, 1) := by decide +kernel
theorem dX5_together_37 : decode cX5_together 37 = .ok (.iload_n 1, 1) := by decide +kernel
theorem dX5_together_38 : decode cX5_together 38 = .ok (.iaload, 1) := by decide +kernel
theorem dX5_together_39 : decode cX5_together 39 = .ok (.if_icmp .ne 10, 3) := by decide +kernel
theorem dX5_together_42 : decode cX5_together 42 = .ok (.iload_n 3, 1) := by decide +kernel
theorem dX5_together_43 : decode cX5_together 43 = .ok (.iconst 1, 1) := by decide +kernel
theorem dX5_together_44 : decode cX5_together 44 = .ok (.iload 4, 2) := by decide +kernel
theorem dX5_together_46 : decode cX5_together 46 = .ok (.ishl, 1) := by decide +kernel
theorem dX5_together_47 : decode cX5_together 47 = .ok (.ior, 1) := by decide +kernel
theorem dX5_together_48 : decode cX5_together 48 = .ok (.istore_n 3, 1) := by decide +kernel
theorem dX5_together_49 : decode cX5_together 49 = .ok (.iinc 4 1, 3) := by decide +kernel
theorem dX5_together_52 : decode cX5_together 52 = .ok (.goto (-47), 3) := by decide +kernel
theorem dX5_together_55 : decode cX5_together 55 = .ok (.iload_n 3, 1) := by decide +kernel
theorem dX5_together_56 : decode cX5_together 56 = .ok (.ireturn, 1) := by decide +kernel
theorem dX6_blame_0 : decode cX6_blame 0 = .ok (.aload_n 0, 1) := by decide +kernel
theorem dX6_blame_1 : decode cX6_blame 1 = .ok (.getfield 27, 3) := by decide +kernel
theorem dX6_blame_4 : decode cX6_blame 4 = .ok (.ifCond .ne 16, 3) := by decide +kernel
theorem dX6_blame_7 : decode cX6_blame 7 = .ok (.aload_n 0, 1) := by decide +kernel
theorem dX6_blame_8 : decode cX6_blame 8 = .ok (.iload_n 1, 1) := by decide +kernel
theorem dX6_blame_9 : decode cX6_blame 9 = .ok (.putfield 27, 3) := by decide +kernel
theorem dX6_blame_12 : decode cX6_blame 12 = .ok (.aload_n 0, 1) := by decide +kernel
theorem dX6_blame_13 : decode cX6_blame 13 = .ok (.aload_n 0, 1) := by decide +kernel
theorem dX6_blame_14 : decode cX6_blame 14 = .ok (.getfield 130, 3) := by decide +kernel
theorem dX6_blame_17 : decode cX6_blame 17 = .ok (.putfield 15, 3) := by decide +kernel
theorem dX6_blame_20 : decode cX6_blame 20 = .ok (.return_, 1) := by decide +kernel
theorem dX6_either_0 : decode cX6_either 0 = .ok (.aload_n 0, 1) := by decide +kernel
theorem dX6_either_1 : decode cX6_either 1 = .ok (.aload_n 2, 1) := by decide +kernel
theorem dX6_either_2 : decode cX6_either 2 = .ok (.invokevirtual 51, 3) := by decide +kernel
theorem dX6_either_5 : decode cX6_either 5 = .ok (.ifCond .eq 7, 3) := by decide +kernel
theorem dX6_either_8 : decode cX6_either 8 = .ok (.iconst (-1), 1) := by decide +kernel
theorem dX6_either_9 : decode cX6_either 9 = .ok (.goto 4, 3) := by decide +kernel
theorem dX6_either_12 : decode cX6_either 12 = .ok (.iconst 1, 1) := by decide +kernel
theorem dX6_either_13 : decode cX6_either 13 = .ok (.istore_n 3, 1) := by decide +kernel
theorem dX6_either_14 : decode cX6_either 14 = .ok (.iload_n 3, 1) := by decide +kernel
theorem dX6_either_15 : decode cX6_either 15 = .ok (.iconst 1, 1) := by decide +kernel
theorem dX6_either_16 : decode cX6_either 16 = .ok (.if_icmp .ne 16, 3) := by decide +kernel
theorem dX6_either_19 : decode cX6_either 19 = .ok (.aload_n 0, 1) := by decide +kernel
theorem dX6_either_20 : decode cX6_either 20 = .ok (.aload_n 1, 1) := by decide +kernel
theorem dX6_either_21 : decode cX6_either 21 = .ok (.invokevirtual 51, 3) := by decide +kernel
theorem dX6_either_24 : decode cX6_either 24 = .ok (.ifCond .ne 8, 3) := by decide +kernel
theorem dX6_either_27 : decode cX6_either 27 = .ok (.aload_n 0, 1) := by decide +kernel
theorem dX6_either_28 : decode cX6_either 28 = .ok (.iconst 1, 1) := by decide +kernel
theorem dX6_either_29 : decode cX6_either 29 = .ok (.invokevirtual 63, 3) := by decide +kernel
theorem dX6_either_32 : decode cX6_either 32 = .ok (.aload_n 0, 1) := by decide +kernel
theorem dX6_either_33 : decode cX6_either 33 = .ok (.invokevirtual 33, 3) := by decide +kernel
theorem dX6_either_36 : decode cX6_either 36 = .ok (.iload_n 3, 1) := by decide +kernel
theorem dX6_either_37 : decode cX6_either 37 = .ok (.ireturn, 1) := by decide +kernel
theorem dX6_expect_0 : decode cX6_expect 0 = .ok (.aload_n 0, 1) := by decide +kernel
theorem dX6_expect_1 : decode cX6_expect 1 = .ok (.aload_n 1, 1) := by decide +kernel
theorem dX6_expect_2 : decode cX6_expect 2 = .ok (.invokevirtual 51, 3) := by decide +kernel
theorem dX6_expect_5 : decode cX6_expect 5 = .ok (.ifCond .ne 8, 3) := by decide +kernel
theorem dX6_expect_8 : decode cX6_expect 8 = .ok (.aload_n 0, 1) := by decide +kernel
theorem dX6_expect_9 : decode cX6_expect 9 = .ok (.iconst 1, 1) := by decide +kernel
theorem dX6_expect_10 : decode cX6_expect 10 = .ok (.invokevirtual 63, 3) := by decide +kernel
theorem dX6_expect_13 : decode cX6_expect 13 = .ok (.aload_n 0, 1) := by decide +kernel
theorem dX6_expect_14 : decode cX6_expect 14 = .ok (.invokevirtual 33, 3) := by decide +kernel
theorem dX6_expect_17 : decode cX6_expect 17 = .ok (.return_, 1) := by decide +kernel
theorem dX6_init_0 : decode cX6_init 0 = .ok (.aload_n 0, 1) := by decide +kernel
theorem dX6_init_1 : decode cX6_init 1 = .ok (.invokespecial 3, 3) := by decide +kernel
theorem dX6_init_4 : decode cX6_init 4 = .ok (.aload_n 0, 1) := by decide +kernel
theorem dX6_init_5 : decode cX6_init 5 = .ok (.sipush 800, 3) := by decide +kernel
theorem dX6_init_8 : decode cX6_init 8 = .ok (.newarray .byte, 2) := by decide +kernel
theorem dX6_init_10 : decode cX6_init 10 = .ok (.putfield 9, 3) := by decide +kernel
theorem dX6_init_13 : decode cX6_init 13 = .ok (.aload_n 0, 1) := by decide +kernel
theorem dX6_init_14 : decode cX6_init 14 = .ok (.iconst (-1), 1) := by decide +kernel
theorem dX6_init_15 : decode cX6_init 15 = .ok (.putfield 15, 3) := by decide +kernel
theorem dX6_init_18 : decode cX6_init 18 = .ok (.return_, 1) := by decide +kernel
theorem dX6_isDigit_0 : decode cX6_isDigit 0 = .ok (.iload_n 0, 1) := by decide +kernel
theorem dX6_isDigit_1 : decode cX6_isDigit 1 = .ok (.bipush 48, 2) := by decide +kernel
theorem dX6_isDigit_3 : decode cX6_isDigit 3 = .ok (.if_icmp .lt 13, 3) := by decide +kernel
theorem dX6_isDigit_6 : decode cX6_isDigit 6 = .ok (.iload_n 0, 1) := by decide +kernel
theorem dX6_isDigit_7 : decode cX6_isDigit 7 = .ok (.bipush 57, 2) := by decide +kernel
theorem dX6_isDigit_9 : decode cX6_isDigit 9 = .ok (.if_icmp .gt 7, 3) := by decide +kernel
theorem dX6_isDigit_12 : decode cX6_isDigit 12 = .ok (.iconst 1, 1) := by decide +kernel
theorem dX6_isDigit_13 : decode cX6_isDigit 13 = .ok (.goto 4, 3) := by decide +kernel
theorem dX6_isDigit_16 : decode cX6_isDigit 16 = .ok (.iconst 0, 1) := by decide +kernel
theorem dX6_isDigit_17 : decode cX6_isDigit 17 = .ok (.ireturn, 1) := by decide +kernel
theorem dX6_isLetter_0 : decode cX6_isLetter 0 = .ok (.iload_n 0, 1) := by decide +kernel
theorem dX6_isLetter_1 : decode cX6_isLetter 1 = .ok (.bipush 97, 2) := by decide +kernel
theorem dX6_isLetter_3 : decode cX6_isLetter 3 = .ok (.if_icmp .lt 13, 3) := by decide +kernel
theorem dX6_isLetter_6 : decode cX6_isLetter 6 = .ok (.iload_n 0, 1) := by decide +kernel
theorem dX6_isLetter_7 : decode cX6_isLetter 7 = .ok (.bipush 122, 2) := by decide +kernel
theorem dX6_isLetter_9 : decode cX6_isLetter 9 = .ok (.if_icmp .gt 7, 3) := by decide +kernel
theorem dX6_isLetter_12 : decode cX6_isLetter 12 = .ok (.iconst 1, 1) := by decide +kernel
theorem dX6_isLetter_13 : decode cX6_isLetter 13 = .ok (.goto 4, 3) := by decide +kernel
theorem dX6_isLetter_16 : decode cX6_isLetter 16 = .ok (.iconst 0, 1) := by decide +kernel
theorem dX6_isLetter_17 : decode cX6_isLetter 17 = .ok (.ireturn, 1) := by decide +kernel
theorem dX6_isWord_0 : decode cX6_isWord 0 = .ok (.aload_n 0, 1) := by decide +kernel
theorem dX6_isWord_1 : decode cX6_isWord 1 = .ok (.getfield 36, 3) := by decide +kernel
theorem dX6_isWord_4 : decode cX6_isWord 4 = .ok (.iconst 2, 1) := by decide +kernel
theorem dX6_isWord_5 : decode cX6_isWord 5 = .ok (.if_icmp .ne 19, 3) := by decide +kernel
theorem dX6_isWord_8 : decode cX6_isWord 8 = .ok (.aload_n 0, 1) := by decide +kernel
theorem dX6_isWord_9 : decode cX6_isWord 9 = .ok (.getfield 30, 3) := by decide +kernel
theorem dX6_isWord_12 : decode cX6_isWord 12 = .ok (.aload_n 0, 1) := by decide +kernel
theorem dX6_isWord_13 : decode cX6_isWord 13 = .ok (.getfield 130, 3) := by decide +kernel
theorem dX6_isWord_16 : decode cX6_isWord 16 = .ok (.isub, 1) := by decide +kernel
theorem dX6_isWord_17 : decode cX6_isWord 17 = .ok (.aload_n 1, 1) := by decide +kernel
theorem dX6_isWord_18 : decode cX6_isWord 18 = .ok (.invokevirtual 136, 3) := by decide +kernel
theorem dX6_isWord_21 : decode cX6_isWord 21 = .ok (.if_icmp .eq 5, 3) := by decide +kernel
theorem dX6_isWord_24 : decode cX6_isWord 24 = .ok (.iconst 0, 1) := by decide +kernel
theorem dX6_isWord_25 : decode cX6_isWord 25 = .ok (.ireturn, 1) := by decide +kernel
theorem dX6_isWord_26 : decode cX6_isWord 26 = .ok (.iconst 0, 1) := by decide +kernel
theorem dX6_isWord_27 : decode cX6_isWord 27 = .ok (.istore_n 2, 1) := by decide +kernel
theorem dX6_isWord_28 : decode cX6_isWord 28 = .ok (.iload_n 2, 1) := by decide +kernel
theorem dX6_isWord_29 : decode cX6_isWord 29 = .ok (.aload_n 1, 1) := by decide +kernel
theorem dX6_isWord_30 : decode cX6_isWord 30 = .ok (.invokevirtual 136, 3) := by decide +kernel
theorem dX6_isWord_33 : decode cX6_isWord 33 = .ok (.if_icmp .ge 30, 3) := by decide +kernel
theorem dX6_isWord_36 : decode cX6_isWord 36 = .ok (.aload_n 0, 1) := by decide +kernel
theorem dX6_isWord_37 : decode cX6_isWord 37 = .ok (.getfield 9, 3) := by decide +kernel
theorem dX6_isWord_40 : decode cX6_isWord 40 = .ok (.aload_n 0, 1) := by decide +kernel
theorem dX6_isWord_41 : decode cX6_isWord 41 = .ok (.getfield 130, 3) := by decide +kernel
theorem dX6_isWord_44 : decode cX6_isWord 44 = .ok (.iload_n 2, 1) := by decide +kernel
theorem dX6_isWord_45 : decode cX6_isWord 45 = .ok (.iadd, 1) := by decide +kernel
theorem dX6_isWord_46 : decode cX6_isWord 46 = .ok (.baload, 1) := by decide +kernel
theorem dX6_isWord_47 : decode cX6_isWord 47 = .ok (.aload_n 1, 1) := by decide +kernel
theorem dX6_isWord_48 : decode cX6_isWord 48 = .ok (.iload_n 2, 1) := by decide +kernel
theorem dX6_isWord_49 : decode cX6_isWord 49 = .ok (.invokevirtual 141, 3) := by decide +kernel
theorem dX6_isWord_52 : decode cX6_isWord 52 = .ok (.if_icmp .eq 5, 3) := by decide +kernel
theorem dX6_isWord_55 : decode cX6_isWord 55 = .ok (.iconst 0, 1) := by decide +kernel
theorem dX6_isWord_56 : decode cX6_isWord 56 = .ok (.ireturn, 1) := by decide +kernel
theorem dX6_isWord_57 : decode cX6_isWord 57 = .ok (.iinc 2 1, 3) := by decide +kernel
theorem dX6_isWord_60 : decode cX6_isWord 60 = .ok (.goto (-32), 3) := by decide +kernel
theorem dX6_isWord_63 : decode cX6_isWord 63 = .ok (.iconst 1, 1) := by decide +kernel
theorem dX6_isWord_64 : decode cX6_isWord 64 = .ok (.ireturn, 1) := by decide +kernel
theorem dX6_numeral_0 : decode cX6_numeral 0 = .ok (.aload_n 0, 1) := by decide +kernel
theorem dX6_numeral_1 : decode cX6_numeral 1 = .ok (.getfield 36, 3) := by decide +kernel
theorem dX6_numeral_4 : decode cX6_numeral 4 = .ok (.iconst 3, 1) := by decide +kernel
theorem dX6_numeral_5 : decode cX6_numeral 5 = .ok (.if_icmp .eq 11, 3) := by decide +kernel
theorem dX6_numeral_8 : decode cX6_numeral 8 = .ok (.aload_n 0, 1) := by decide +kernel
theorem dX6_numeral_9 : decode cX6_numeral 9 = .ok (.iconst 1, 1) := by decide +kernel
theorem dX6_numeral_10 : decode cX6_numeral 10 = .ok (.invokevirtual 63, 3) := by decide +kernel
theorem dX6_numeral_13 : decode cX6_numeral 13 = .ok (.goto 24, 3) := by decide +kernel
theorem dX6_numeral_16 : decode cX6_numeral 16 = .ok (.aload_n 0, 1) := by decide +kernel
theorem dX6_numeral_17 : decode cX6_numeral 17 = .ok (.getfield 133, 3) := by decide +kernel
theorem dX6_numeral_20 : decode cX6_numeral 20 = .ok (.iload_n 1, 1) := by decide +kernel
theorem dX6_numeral_21 : decode cX6_numeral 21 = .ok (.if_icmp .lt 11, 3) := by decide +kernel
theorem dX6_numeral_24 : decode cX6_numeral 24 = .ok (.aload_n 0, 1) := by decide +kernel
theorem dX6_numeral_25 : decode cX6_numeral 25 = .ok (.getfield 133, 3) := by decide +kernel
theorem dX6_numeral_28 : decode cX6_numeral 28 = .ok (.iload_n 2, 1) := by decide +kernel
theorem dX6_numeral_29 : decode cX6_numeral 29 = .ok (.if_icmp .le 8, 3) := by decide +kernel
theorem dX6_numeral_32 : decode cX6_numeral 32 = .ok (.aload_n 0, 1) := by decide +kernel
theorem dX6_numeral_33 : decode cX6_numeral 33 = .ok (.iconst 2, 1) := by decide +kernel
theorem dX6_numeral_34 : decode cX6_numeral 34 = .ok (.invokevirtual 63, 3) := by decide +kernel
theorem dX6_numeral_37 : decode cX6_numeral 37 = .ok (.aload_n 0, 1) := by decide +kernel
theorem dX6_numeral_38 : decode cX6_numeral 38 = .ok (.getfield 133, 3) := by decide +kernel
theorem dX6_numeral_41 : decode cX6_numeral 41 = .ok (.istore_n 3, 1) := by decide +kernel
theorem dX6_numeral_42 : decode cX6_numeral 42 = .ok (.aload_n 0, 1) := by decide +kernel
theorem dX6_numeral_43 : decode cX6_numeral 43 = .ok (.invokevirtual 33, 3) := by decide +kernel
theorem dX6_numeral_46 : decode cX6_numeral 46 = .ok (.iload_n 3, 1) := by decide +kernel
theorem dX6_numeral_47 : decode cX6_numeral 47 = .ok (.ireturn, 1) := by decide +kernel
theorem dX6_readClock_0 : decode cX6_readClock 0 = .ok (.aload_n 1, 1) := by decide +kernel
theorem dX6_readClock_1 : decode cX6_readClock 1 = .ok (.getfield 89, 3) := by decide +kernel
theorem dX6_readClock_4 : decode cX6_readClock 4 = .ok (.istore_n 2, 1) := by decide +kernel
theorem dX6_readClock_5 : decode cX6_readClock 5 = .ok (.iload_n 2, 1) := by decide +kernel
theorem dX6_readClock_6 : decode cX6_readClock 6 = .ok (.bipush 6, 2) := by decide +kernel
theorem dX6_readClock_8 : decode cX6_readClock 8 = .ok (.if_icmp .lt 9, 3) := by decide +kernel
theorem dX6_readClock_11 : decode cX6_readClock 11 = .ok (.aload_n 0, 1) := by decide +kernel
theorem dX6_readClock_12 : decode cX6_readClock 12 = .ok (.iconst 3, 1) := by decide +kernel
theorem dX6_readClock_13 : decode cX6_readClock 13 = .ok (.invokevirtual 63, 3) := by decide +kernel
theorem dX6_readClock_16 : decode cX6_readClock 16 = .ok (.return_, 1) := by decide +kernel
theorem dX6_readClock_17 : decode cX6_readClock 17 = .ok (.aload_n 0, 1) := by decide +kernel
theorem dX6_readClock_18 : decode cX6_readClock 18 = .ok (.ldc 49, 2) := by decide +kernel
theorem dX6_readClock_20 : decode cX6_readClock 20 = .ok (.invokevirtual 69, 3) := by decide +kernel
theorem dX6_readClock_23 : decode cX6_readClock 23 = .ok (.aload_n 0, 1) := by decide +kernel
theorem dX6_readClock_24 : decode cX6_readClock 24 = .ok (.ldc 92, 2) := by decide +kernel
theorem dX6_readClock_26 : decode cX6_readClock 26 = .ok (.invokevirtual 69, 3) := by decide +kernel
theorem dX6_readClock_29 : decode cX6_readClock 29 = .ok (.aload_n 1, 1) := by decide +kernel
theorem dX6_readClock_30 : decode cX6_readClock 30 = .ok (.getfield 94, 3) := by decide +kernel
theorem dX6_readClock_33 : decode cX6_readClock 33 = .ok (.iload_n 2, 1) := by decide +kernel
theorem dX6_readClock_34 : decode cX6_readClock 34 = .ok (.aload_n 0, 1) := by decide +kernel
theorem dX6_readClock_35 : decode cX6_readClock 35 = .ok (.iconst 0, 1) := by decide +kernel
theorem dX6_readClock_36 : decode cX6_readClock 36 = .ok (.bipush 9, 2) := by decide +kernel
theorem dX6_readClock_38 : decode cX6_readClock 38 = .ok (.invokevirtual 75, 3) := by decide +kernel
theorem dX6_readClock_41 : decode cX6_readClock 41 = .ok (.iastore, 1) := by decide +kernel
theorem dX6_readClock_42 : decode cX6_readClock 42 = .ok (.aload_n 1, 1) := by decide +kernel
theorem dX6_readClock_43 : decode cX6_readClock 43 = .ok (.getfield 98, 3) := by decide +kernel
theorem dX6_readClock_46 : decode cX6_readClock 46 = .ok (.iload_n 2, 1) := by decide +kernel
theorem dX6_readClock_47 : decode cX6_readClock 47 = .ok (.aload_n 0, 1) := by decide +kernel
theorem dX6_readClock_48 : decode cX6_readClock 48 = .ok (.ldc 101, 2) := by decide +kernel
theorem dX6_readClock_50 : decode cX6_readClock 50 = .ok (.ldc 102, 2) := by decide +kernel
theorem dX6_readClock_52 : decode cX6_readClock 52 = .ok (.invokevirtual 104, 3) := by decide +kernel
theorem dX6_readClock_55 : decode cX6_readClock 55 = .ok (.aload_n 0, 1) := by decide +kernel
theorem dX6_readClock_56 : decode cX6_readClock 56 = .ok (.iconst 0, 1) := by decide +kernel
theorem dX6_readClock_57 : decode cX6_readClock 57 = .ok (.bipush 60, 2) := by decide +kernel
theorem dX6_readClock_59 : decode cX6_readClock 59 = .ok (.invokevirtual 75, 3) := by decide +kernel
theorem dX6_readClock_62 : decode cX6_readClock 62 = .ok (.imul, 1) := by decide +kernel
theorem dX6_readClock_63 : decode cX6_readClock 63 = .ok (.iastore, 1) := by decide +kernel
theorem dX6_readClock_64 : decode cX6_readClock 64 = .ok (.aload_n 1, 1) := by decide +kernel
theorem dX6_readClock_65 : decode cX6_readClock 65 = .ok (.getfield 108, 3) := by decide +kernel
theorem dX6_readClock_68 : decode cX6_readClock 68 = .ok (.iload_n 2, 1) := by decide +kernel
theorem dX6_readClock_69 : decode cX6_readClock 69 = .ok (.aload_n 0, 1) := by decide +kernel
theorem dX6_readClock_70 : decode cX6_readClock 70 = .ok (.ldc 111, 2) := by decide +kernel
theorem dX6_readClock_72 : decode cX6_readClock 72 = .ok (.ldc 112, 2) := by decide +kernel
theorem dX6_readClock_74 : decode cX6_readClock 74 = .ok (.invokevirtual 104, 3) := by decide +kernel
theorem dX6_readClock_77 : decode cX6_readClock 77 = .ok (.aload_n 0, 1) := by decide +kernel
theorem dX6_readClock_78 : decode cX6_readClock 78 = .ok (.iconst 0, 1) := by decide +kernel
theorem dX6_readClock_79 : decode cX6_readClock 79 = .ok (.bipush 9, 2) := by decide +kernel
theorem dX6_readClock_81 : decode cX6_readClock 81 = .ok (.invokevirtual 75, 3) := by decide +kernel
theorem dX6_readClock_84 : decode cX6_readClock 84 = .ok (.imul, 1) := by decide +kernel
theorem dX6_readClock_85 : decode cX6_readClock 85 = .ok (.iastore, 1) := by decide +kernel
theorem dX6_readClock_86 : decode cX6_readClock 86 = .ok (.aload_n 0, 1) := by decide +kernel
theorem dX6_readClock_87 : decode cX6_readClock 87 = .ok (.ldc 114, 2) := by decide +kernel
theorem dX6_readClock_89 : decode cX6_readClock 89 = .ok (.invokevirtual 69, 3) := by decide +kernel
theorem dX6_readClock_92 : decode cX6_readClock 92 = .ok (.aload_n 1, 1) := by decide +kernel
theorem dX6_readClock_93 : decode cX6_readClock 93 = .ok (.getfield 116, 3) := by decide +kernel
theorem dX6_readClock_96 : decode cX6_readClock 96 = .ok (.iload_n 2, 1) := by decide +kernel
theorem dX6_readClock_97 : decode cX6_readClock 97 = .ok (.aload_n 0, 1) := by decide +kernel
theorem dX6_readClock_98 : decode cX6_readClock 98 = .ok (.iconst 0, 1) := by decide +kernel
theorem dX6_readClock_99 : decode cX6_readClock 99 = .ok (.sipush 999, 3) := by decide +kernel
theorem dX6_readClock_102 : decode cX6_readClock 102 = .ok (.invokevirtual 75, 3) := by decide +kernel
theorem dX6_readClock_105 : decode cX6_readClock 105 = .ok (.iastore, 1) := by decide +kernel
theorem dX6_readClock_106 : decode cX6_readClock 106 = .ok (.aload_n 1, 1) := by decide +kernel
theorem dX6_readClock_107 : decode cX6_readClock 107 = .ok (.getfield 118, 3) := by decide +kernel
theorem dX6_readClock_110 : decode cX6_readClock 110 = .ok (.iload_n 2, 1) := by decide +kernel
theorem dX6_readClock_111 : decode cX6_readClock 111 = .ok (.iconst 0, 1) := by decide +kernel
theorem dX6_readClock_112 : decode cX6_readClock 112 = .ok (.iastore, 1) := by decide +kernel
theorem dX6_readClock_113 : decode cX6_readClock 113 = .ok (.aload_n 0, 1) := by decide +kernel
theorem dX6_readClock_114 : decode cX6_readClock 114 = .ok (.ldc 121, 2) := by decide +kernel
theorem dX6_readClock_116 : decode cX6_readClock 116 = .ok (.invokevirtual 51, 3) := by decide +kernel
theorem dX6_readClock_119 : decode cX6_readClock 119 = .ok (.ifCond .eq 14, 3) := by decide +kernel
theorem dX6_readClock_122 : decode cX6_readClock 122 = .ok (.aload_n 1, 1) := by decide +kernel
theorem dX6_readClock_123 : decode cX6_readClock 123 = .ok (.getfield 118, 3) := by decide +kernel
theorem dX6_readClock_126 : decode cX6_readClock 126 = .ok (.iload_n 2, 1) := by decide +kernel
theorem dX6_readClock_127 : decode cX6_readClock 127 = .ok (.iconst 1, 1) := by decide +kernel
theorem dX6_readClock_128 : decode cX6_readClock 128 = .ok (.iastore, 1) := by decide +kernel
theorem dX6_readClock_129 : decode cX6_readClock 129 = .ok (.aload_n 0, 1) := by decide +kernel
theorem dX6_readClock_130 : decode cX6_readClock 130 = .ok (.invokevirtual 33, 3) := by decide +kernel
theorem dX6_readClock_133 : decode cX6_readClock 133 = .ok (.aload_n 1, 1) := by decide +kernel
theorem dX6_readClock_134 : decode cX6_readClock 134 = .ok (.dup, 1) := by decide +kernel
theorem dX6_readClock_135 : decode cX6_readClock 135 = .ok (.getfield 89, 3) := by decide +kernel
theorem dX6_readClock_138 : decode cX6_readClock 138 = .ok (.iconst 1, 1) := by decide +kernel
theorem dX6_readClock_139 : decode cX6_readClock 139 = .ok (.iadd, 1) := by decide +kernel
theorem dX6_readClock_140 : decode cX6_readClock 140 = .ok (.putfield 89, 3) := by decide +kernel
theorem dX6_readClock_143 : decode cX6_readClock 143 = .ok (.return_, 1) := by decide +kernel
theorem dX6_readLine_0 : decode cX6_readLine 0 = .ok (.aload_n 1, 1) := by decide +kernel
theorem dX6_readLine_1 : decode cX6_readLine 1 = .ok (.getfield 43, 3) := by decide +kernel
theorem dX6_readLine_4 : decode cX6_readLine 4 = .ok (.ifCond .ne 11, 3) := by decide +kernel
theorem dX6_readLine_7 : decode cX6_readLine 7 = .ok (.aload_n 0, 1) := by decide +kernel
theorem dX6_readLine_8 : decode cX6_readLine 8 = .ok (.aload_n 1, 1) := by decide +kernel
theorem dX6_readLine_9 : decode cX6_readLine 9 = .ok (.invokevirtual 46, 3) := by decide +kernel
theorem dX6_readLine_12 : decode cX6_readLine 12 = .ok (.goto 42, 3) := by decide +kernel
theorem dX6_readLine_15 : decode cX6_readLine 15 = .ok (.aload_n 0, 1) := by decide +kernel
theorem dX6_readLine_16 : decode cX6_readLine 16 = .ok (.ldc 49, 2) := by decide +kernel
theorem dX6_readLine_18 : decode cX6_readLine 18 = .ok (.invokevirtual 51, 3) := by decide +kernel
theorem dX6_readLine_21 : decode cX6_readLine 21 = .ok (.ifCond .eq 11, 3) := by decide +kernel
theorem dX6_readLine_24 : decode cX6_readLine 24 = .ok (.aload_n 0, 1) := by decide +kernel
theorem dX6_readLine_25 : decode cX6_readLine 25 = .ok (.aload_n 1, 1) := by decide +kernel
theorem dX6_readLine_26 : decode cX6_readLine 26 = .ok (.invokevirtual 55, 3) := by decide +kernel
theorem dX6_readLine_29 : decode cX6_readLine 29 = .ok (.goto 25, 3) := by decide +kernel
theorem dX6_readLine_32 : decode cX6_readLine 32 = .ok (.aload_n 0, 1) := by decide +kernel
theorem dX6_readLine_33 : decode cX6_readLine 33 = .ok (.ldc 58, 2) := by decide +kernel
theorem dX6_readLine_35 : decode cX6_readLine 35 = .ok (.invokevirtual 51, 3) := by decide +kernel
theorem dX6_readLine_38 : decode cX6_readLine 38 = .ok (.ifCond .eq 11, 3) := by decide +kernel
theorem dX6_readLine_41 : decode cX6_readLine 41 = .ok (.aload_n 0, 1) := by decide +kernel
theorem dX6_readLine_42 : decode cX6_readLine 42 = .ok (.aload_n 1, 1) := by decide +kernel
theorem dX6_readLine_43 : decode cX6_readLine 43 = .ok (.invokevirtual 60, 3) := by decide +kernel
theorem dX6_readLine_46 : decode cX6_readLine 46 = .ok (.goto 8, 3) := by decide +kernel
theorem dX6_readLine_49 : decode cX6_readLine 49 = .ok (.aload_n 0, 1) := by decide +kernel
theorem dX6_readLine_50 : decode cX6_readLine 50 = .ok (.iconst 1, 1) := by decide +kernel
theorem dX6_readLine_51 : decode cX6_readLine 51 = .ok (.invokevirtual 63, 3) := by decide +kernel
theorem dX6_readLine_54 : decode cX6_readLine 54 = .ok (.aload_n 0, 1) := by decide +kernel
theorem dX6_readLine_55 : decode cX6_readLine 55 = .ok (.getfield 36, 3) := by decide +kernel
theorem dX6_readLine_58 : decode cX6_readLine 58 = .ok (.iconst 1, 1) := by decide +kernel
theorem dX6_readLine_59 : decode cX6_readLine 59 = .ok (.if_icmp .eq 8, 3) := by decide +kernel
theorem dX6_readLine_62 : decode cX6_readLine 62 = .ok (.aload_n 0, 1) := by decide +kernel
theorem dX6_readLine_63 : decode cX6_readLine 63 = .ok (.iconst 1, 1) := by decide +kernel
theorem dX6_readLine_64 : decode cX6_readLine 64 = .ok (.invokevirtual 63, 3) := by decide +kernel
theorem dX6_readLine_67 : decode cX6_readLine 67 = .ok (.aload_n 0, 1) := by decide +kernel
theorem dX6_readLine_68 : decode cX6_readLine 68 = .ok (.invokevirtual 33, 3) := by decide +kernel
theorem dX6_readLine_71 : decode cX6_readLine 71 = .ok (.aload_n 1, 1) := by decide +kernel
theorem dX6_readLine_72 : decode cX6_readLine 72 = .ok (.dup, 1) := by decide +kernel
theorem dX6_readLine_73 : decode cX6_readLine 73 = .ok (.getfield 43, 3) := by decide +kernel
theorem dX6_readLine_76 : decode cX6_readLine 76 = .ok (.iconst 1, 1) := by decide +kernel
theorem dX6_readLine_77 : decode cX6_readLine 77 = .ok (.iadd, 1) := by decide +kernel
theorem dX6_readLine_78 : decode cX6_readLine 78 = .ok (.putfield 43, 3) := by decide +kernel
theorem dX6_readLine_81 : decode cX6_readLine 81 = .ok (.return_, 1) := by decide +kernel
theorem dX6_readTown_0 : decode cX6_readTown 0 = .ok (.aload_n 0, 1) := by decide +kernel
theorem dX6_readTown_1 : decode cX6_readTown 1 = .ok (.ldc 67, 2) := by decide +kernel
theorem dX6_readTown_3 : decode cX6_readTown 3 = .ok (.invokevirtual 69, 3) := by decide +kernel
theorem dX6_readTown_6 : decode cX6_readTown 6 = .ok (.aload_n 0, 1) := by decide +kernel
theorem dX6_readTown_7 : decode cX6_readTown 7 = .ok (.ldc 73, 2) := by decide +kernel
theorem dX6_readTown_9 : decode cX6_readTown 9 = .ok (.invokevirtual 69, 3) := by decide +kernel
theorem dX6_readTown_12 : decode cX6_readTown 12 = .ok (.aload_n 1, 1) := by decide +kernel
theorem dX6_readTown_13 : decode cX6_readTown 13 = .ok (.aload_n 0, 1) := by decide +kernel
theorem dX6_readTown_14 : decode cX6_readTown 14 = .ok (.iconst 1, 1) := by decide +kernel
theorem dX6_readTown_15 : decode cX6_readTown 15 = .ok (.bipush 7, 2) := by decide +kernel
theorem dX6_readTown_17 : decode cX6_readTown 17 = .ok (.invokevirtual 75, 3) := by decide +kernel
theorem dX6_readTown_20 : decode cX6_readTown 20 = .ok (.putfield 79, 3) := by decide +kernel
theorem dX6_readTown_23 : decode cX6_readTown 23 = .ok (.aload_n 0, 1) := by decide +kernel
theorem dX6_readTown_24 : decode cX6_readTown 24 = .ok (.ldc 81, 2) := by decide +kernel
theorem dX6_readTown_26 : decode cX6_readTown 26 = .ok (.invokevirtual 69, 3) := by decide +kernel
theorem dX6_readTown_29 : decode cX6_readTown 29 = .ok (.aload_n 1, 1) := by decide +kernel
theorem dX6_readTown_30 : decode cX6_readTown 30 = .ok (.aload_n 0, 1) := by decide +kernel
theorem dX6_readTown_31 : decode cX6_readTown 31 = .ok (.iconst 0, 1) := by decide +kernel
theorem dX6_readTown_32 : decode cX6_readTown 32 = .ok (.bipush 9, 2) := by decide +kernel
theorem dX6_readTown_34 : decode cX6_readTown 34 = .ok (.invokevirtual 75, 3) := by decide +kernel
theorem dX6_readTown_37 : decode cX6_readTown 37 = .ok (.putfield 83, 3) := by decide +kernel
theorem dX6_readTown_40 : decode cX6_readTown 40 = .ok (.aload_n 0, 1) := by decide +kernel
theorem dX6_readTown_41 : decode cX6_readTown 41 = .ok (.ldc 85, 2) := by decide +kernel
theorem dX6_readTown_43 : decode cX6_readTown 43 = .ok (.invokevirtual 69, 3) := by decide +kernel
theorem dX6_readTown_46 : decode cX6_readTown 46 = .ok (.aload_n 1, 1) := by decide +kernel
theorem dX6_readTown_47 : decode cX6_readTown 47 = .ok (.aload_n 0, 1) := by decide +kernel
theorem dX6_readTown_48 : decode cX6_readTown 48 = .ok (.iconst 0, 1) := by decide +kernel
theorem dX6_readTown_49 : decode cX6_readTown 49 = .ok (.bipush 10, 2) := by decide +kernel
theorem dX6_readTown_51 : decode cX6_readTown 51 = .ok (.invokevirtual 75, 3) := by decide +kernel
theorem dX6_readTown_54 : decode cX6_readTown 54 = .ok (.putfield 87, 3) := by decide +kernel
theorem dX6_readTown_57 : decode cX6_readTown 57 = .ok (.return_, 1) := by decide +kernel
theorem dX6_readTrade_0 : decode cX6_readTrade 0 = .ok (.aload_n 1, 1) := by decide +kernel
theorem dX6_readTrade_1 : decode cX6_readTrade 1 = .ok (.getfield 122, 3) := by decide +kernel
theorem dX6_readTrade_4 : decode cX6_readTrade 4 = .ok (.iconst 5, 1) := by decide +kernel
theorem dX6_readTrade_5 : decode cX6_readTrade 5 = .ok (.if_icmp .lt 9, 3) := by decide +kernel
theorem dX6_readTrade_8 : decode cX6_readTrade 8 = .ok (.aload_n 0, 1) := by decide +kernel
theorem dX6_readTrade_9 : decode cX6_readTrade 9 = .ok (.iconst 3, 1) := by decide +kernel
theorem dX6_readTrade_10 : decode cX6_readTrade 10 = .ok (.invokevirtual 63, 3) := by decide +kernel
theorem dX6_readTrade_13 : decode cX6_readTrade 13 = .ok (.return_, 1) := by decide +kernel
theorem dX6_readTrade_14 : decode cX6_readTrade 14 = .ok (.aload_n 0, 1) := by decide +kernel
theorem dX6_readTrade_15 : decode cX6_readTrade 15 = .ok (.ldc 58, 2) := by decide +kernel
theorem dX6_readTrade_17 : decode cX6_readTrade 17 = .ok (.invokevirtual 69, 3) := by decide +kernel
theorem dX6_readTrade_20 : decode cX6_readTrade 20 = .ok (.aload_n 0, 1) := by decide +kernel
theorem dX6_readTrade_21 : decode cX6_readTrade 21 = .ok (.ldc 125, 2) := by decide +kernel
theorem dX6_readTrade_23 : decode cX6_readTrade 23 = .ok (.invokevirtual 69, 3) := by decide +kernel
theorem dX6_readTrade_26 : decode cX6_readTrade 26 = .ok (.aload_n 1, 1) := by decide +kernel
theorem dX6_readTrade_27 : decode cX6_readTrade 27 = .ok (.dup, 1) := by decide +kernel
theorem dX6_readTrade_28 : decode cX6_readTrade 28 = .ok (.getfield 127, 3) := by decide +kernel
theorem dX6_readTrade_31 : decode cX6_readTrade 31 = .ok (.aload_n 0, 1) := by decide +kernel
theorem dX6_readTrade_32 : decode cX6_readTrade 32 = .ok (.iconst 0, 1) := by decide +kernel
theorem dX6_readTrade_33 : decode cX6_readTrade 33 = .ok (.bipush 99, 2) := by decide +kernel
theorem dX6_readTrade_35 : decode cX6_readTrade 35 = .ok (.invokevirtual 75, 3) := by decide +kernel
theorem dX6_readTrade_38 : decode cX6_readTrade 38 = .ok (.iadd, 1) := by decide +kernel
theorem dX6_readTrade_39 : decode cX6_readTrade 39 = .ok (.putfield 127, 3) := by decide +kernel
theorem dX6_readTrade_42 : decode cX6_readTrade 42 = .ok (.aload_n 1, 1) := by decide +kernel
theorem dX6_readTrade_43 : decode cX6_readTrade 43 = .ok (.dup, 1) := by decide +kernel
theorem dX6_readTrade_44 : decode cX6_readTrade 44 = .ok (.getfield 122, 3) := by decide +kernel
theorem dX6_readTrade_47 : decode cX6_readTrade 47 = .ok (.iconst 1, 1) := by decide +kernel
theorem dX6_readTrade_48 : decode cX6_readTrade 48 = .ok (.iadd, 1) := by decide +kernel
theorem dX6_readTrade_49 : decode cX6_readTrade 49 = .ok (.putfield 122, 3) := by decide +kernel
theorem dX6_readTrade_52 : decode cX6_readTrade 52 = .ok (.return_, 1) := by decide +kernel
theorem dX6_step_0 : decode cX6_step 0 = .ok (.aload_n 0, 1) := by decide +kernel
theorem dX6_step_1 : decode cX6_step 1 = .ok (.getfield 30, 3) := by decide +kernel
theorem dX6_step_4 : decode cX6_step 4 = .ok (.aload_n 0, 1) := by decide +kernel
theorem dX6_step_5 : decode cX6_step 5 = .ok (.getfield 19, 3) := by decide +kernel
theorem dX6_step_8 : decode cX6_step 8 = .ok (.if_icmp .ge 44, 3) := by decide +kernel
theorem dX6_step_11 : decode cX6_step 11 = .ok (.aload_n 0, 1) := by decide +kernel
theorem dX6_step_12 : decode cX6_step 12 = .ok (.getfield 9, 3) := by decide +kernel
theorem dX6_step_15 : decode cX6_step 15 = .ok (.aload_n 0, 1) := by decide +kernel
theorem dX6_step_16 : decode cX6_step 16 = .ok (.getfield 30, 3) := by decide +kernel
theorem dX6_step_19 : decode cX6_step 19 = .ok (.baload, 1) := by decide +kernel
theorem dX6_step_20 : decode cX6_step 20 = .ok (.bipush 32, 2) := by decide +kernel
theorem dX6_step_22 : decode cX6_step 22 = .ok (.if_icmp .eq 17, 3) := by decide +kernel
theorem dX6_step_25 : decode cX6_step 25 = .ok (.aload_n 0, 1) := by decide +kernel
theorem dX6_step_26 : decode cX6_step 26 = .ok (.getfield 9, 3) := by decide +kernel
theorem dX6_step_29 : decode cX6_step 29 = .ok (.aload_n 0, 1) := by decide +kernel
theorem dX6_step_30 : decode cX6_step 30 = .ok (.getfield 30, 3) := by decide +kernel
theorem dX6_step_33 : decode cX6_step 33 = .ok (.baload, 1) := by decide +kernel
theorem dX6_step_34 : decode cX6_step 34 = .ok (.bipush 10, 2) := by decide +kernel
theorem dX6_step_36 : decode cX6_step 36 = .ok (.if_icmp .ne 16, 3) := by decide +kernel
theorem dX6_step_39 : decode cX6_step 39 = .ok (.aload_n 0, 1) := by decide +kernel
theorem dX6_step_40 : decode cX6_step 40 = .ok (.dup, 1) := by decide +kernel
theorem dX6_step_41 : decode cX6_step 41 = .ok (.getfield 30, 3) := by decide +kernel
theorem dX6_step_44 : decode cX6_step 44 = .ok (.iconst 1, 1) := by decide +kernel
theorem dX6_step_45 : decode cX6_step 45 = .ok (.iadd, 1) := by decide +kernel
theorem dX6_step_46 : decode cX6_step 46 = .ok (.putfield 30, 3) := by decide +kernel
theorem dX6_step_49 : decode cX6_step 49 = .ok (.goto (-49), 3) := by decide +kernel
theorem dX6_step_52 : decode cX6_step 52 = .ok (.aload_n 0, 1) := by decide +kernel
theorem dX6_step_53 : decode cX6_step 53 = .ok (.aload_n 0, 1) := by decide +kernel
theorem dX6_step_54 : decode cX6_step 54 = .ok (.getfield 30, 3) := by decide +kernel
theorem dX6_step_57 : decode cX6_step 57 = .ok (.putfield 130, 3) := by decide +kernel
theorem dX6_step_60 : decode cX6_step 60 = .ok (.aload_n 0, 1) := by decide +kernel
theorem dX6_step_61 : decode cX6_step 61 = .ok (.getfield 30, 3) := by decide +kernel
theorem dX6_step_64 : decode cX6_step 64 = .ok (.aload_n 0, 1) := by decide +kernel
theorem dX6_step_65 : decode cX6_step 65 = .ok (.getfield 19, 3) := by decide +kernel
theorem dX6_step_68 : decode cX6_step 68 = .ok (.if_icmp .lt 11, 3) := by decide +kernel
theorem dX6_step_71 : decode cX6_step 71 = .ok (.aload_n 0, 1) := by decide +kernel
theorem dX6_step_72 : decode cX6_step 72 = .ok (.iconst 0, 1) := by decide +kernel
theorem dX6_step_73 : decode cX6_step 73 = .ok (.putfield 36, 3) := by decide +kernel
theorem dX6_step_76 : decode cX6_step 76 = .ok (.goto 188, 3) := by decide +kernel
theorem dX6_step_79 : decode cX6_step 79 = .ok (.aload_n 0, 1) := by decide +kernel
theorem dX6_step_80 : decode cX6_step 80 = .ok (.getfield 9, 3) := by decide +kernel
theorem dX6_step_83 : decode cX6_step 83 = .ok (.aload_n 0, 1) := by decide +kernel
theorem dX6_step_84 : decode cX6_step 84 = .ok (.getfield 30, 3) := by decide +kernel
theorem dX6_step_87 : decode cX6_step 87 = .ok (.baload, 1) := by decide +kernel
theorem dX6_step_88 : decode cX6_step 88 = .ok (.invokestatic 145, 3) := by decide +kernel
theorem dX6_step_91 : decode cX6_step 91 = .ok (.ifCond .eq 47, 3) := by decide +kernel
theorem dX6_step_94 : decode cX6_step 94 = .ok (.aload_n 0, 1) := by decide +kernel
theorem dX6_step_95 : decode cX6_step 95 = .ok (.iconst 2, 1) := by decide +kernel
theorem dX6_step_96 : decode cX6_step 96 = .ok (.putfield 36, 3) := by decide +kernel
theorem dX6_step_99 : decode cX6_step 99 = .ok (.aload_n 0, 1) := by decide +kernel
theorem dX6_step_100 : decode cX6_step 100 = .ok (.getfield 30, 3) := by decide +kernel
theorem dX6_step_103 : decode cX6_step 103 = .ok (.aload_n 0, 1) := by decide +kernel
theorem dX6_step_104 : decode cX6_step 104 = .ok (.getfield 19, 3) := by decide +kernel
theorem dX6_step_107 : decode cX6_step 107 = .ok (.if_icmp .ge 157, 3) := by decide +kernel
theorem dX6_step_110 : decode cX6_step 110 = .ok (.aload_n 0, 1) := by decide +kernel
theorem dX6_step_111 : decode cX6_step 111 = .ok (.getfield 9, 3) := by decide +kernel
theorem dX6_step_114 : decode cX6_step 114 = .ok (.aload_n 0, 1) := by decide +kernel
theorem dX6_step_115 : decode cX6_step 115 = .ok (.getfield 30, 3) := by decide +kernel
theorem dX6_step_118 : decode cX6_step 118 = .ok (.baload, 1) := by decide +kernel
theorem dX6_step_119 : decode cX6_step 119 = .ok (.invokestatic 145, 3) := by decide +kernel
theorem dX6_step_122 : decode cX6_step 122 = .ok (.ifCond .eq 142, 3) := by decide +kernel
theorem dX6_step_125 : decode cX6_step 125 = .ok (.aload_n 0, 1) := by decide +kernel
theorem dX6_step_126 : decode cX6_step 126 = .ok (.dup, 1) := by decide +kernel
theorem dX6_step_127 : decode cX6_step 127 = .ok (.getfield 30, 3) := by decide +kernel
theorem dX6_step_130 : decode cX6_step 130 = .ok (.iconst 1, 1) := by decide +kernel
theorem dX6_step_131 : decode cX6_step 131 = .ok (.iadd, 1) := by decide +kernel
theorem dX6_step_132 : decode cX6_step 132 = .ok (.putfield 30, 3) := by decide +kernel
theorem dX6_step_135 : decode cX6_step 135 = .ok (.goto (-36), 3) := by decide +kernel
theorem dX6_step_138 : decode cX6_step 138 = .ok (.aload_n 0, 1) := by decide +kernel
theorem dX6_step_139 : decode cX6_step 139 = .ok (.getfield 9, 3) := by decide +kernel
theorem dX6_step_142 : decode cX6_step 142 = .ok (.aload_n 0, 1) := by decide +kernel
theorem dX6_step_143 : decode cX6_step 143 = .ok (.getfield 30, 3) := by decide +kernel
theorem dX6_step_146 : decode cX6_step 146 = .ok (.baload, 1) := by decide +kernel
theorem dX6_step_147 : decode cX6_step 147 = .ok (.invokestatic 149, 3) := by decide +kernel
theorem dX6_step_150 : decode cX6_step 150 = .ok (.ifCond .eq 81, 3) := by decide +kernel
theorem dX6_step_153 : decode cX6_step 153 = .ok (.aload_n 0, 1) := by decide +kernel
theorem dX6_step_154 : decode cX6_step 154 = .ok (.iconst 3, 1) := by decide +kernel
theorem dX6_step_155 : decode cX6_step 155 = .ok (.putfield 36, 3) := by decide +kernel
theorem dX6_step_158 : decode cX6_step 158 = .ok (.aload_n 0, 1) := by decide +kernel
theorem dX6_step_159 : decode cX6_step 159 = .ok (.iconst 0, 1) := by decide +kernel
theorem dX6_step_160 : decode cX6_step 160 = .ok (.putfield 133, 3) := by decide +kernel
theorem dX6_step_163 : decode cX6_step 163 = .ok (.aload_n 0, 1) := by decide +kernel
theorem dX6_step_164 : decode cX6_step 164 = .ok (.getfield 30, 3) := by decide +kernel
theorem dX6_step_167 : decode cX6_step 167 = .ok (.aload_n 0, 1) := by decide +kernel
theorem dX6_step_168 : decode cX6_step 168 = .ok (.getfield 19, 3) := by decide +kernel
theorem dX6_step_171 : decode cX6_step 171 = .ok (.if_icmp .ge 93, 3) := by decide +kernel
theorem dX6_step_174 : decode cX6_step 174 = .ok (.aload_n 0, 1) := by decide +kernel
theorem dX6_step_175 : decode cX6_step 175 = .ok (.getfield 9, 3) := by decide +kernel
theorem dX6_step_178 : decode cX6_step 178 = .ok (.aload_n 0, 1) := by decide +kernel
theorem dX6_step_179 : decode cX6_step 179 = .ok (.getfield 30, 3) := by decide +kernel
theorem dX6_step_182 : decode cX6_step 182 = .ok (.baload, 1) := by decide +kernel
theorem dX6_step_183 : decode cX6_step 183 = .ok (.invokestatic 149, 3) := by decide +kernel
theorem dX6_step_186 : decode cX6_step 186 = .ok (.ifCond .eq 78, 3) := by decide +kernel
theorem dX6_step_189 : decode cX6_step 189 = .ok (.aload_n 0, 1) := by decide +kernel
theorem dX6_step_190 : decode cX6_step 190 = .ok (.ldc 152, 2) := by decide +kernel
theorem dX6_step_192 : decode cX6_step 192 = .ok (.bipush 10, 2) := by decide +kernel
theorem dX6_step_194 : decode cX6_step 194 = .ok (.aload_n 0, 1) := by decide +kernel
theorem dX6_step_195 : decode cX6_step 195 = .ok (.getfield 133, 3) := by decide +kernel
theorem dX6_step_198 : decode cX6_step 198 = .ok (.imul, 1) := by decide +kernel
theorem dX6_step_199 : decode cX6_step 199 = .ok (.aload_n 0, 1) := by decide +kernel
theorem dX6_step_200 : decode cX6_step 200 = .ok (.getfield 9, 3) := by decide +kernel
theorem dX6_step_203 : decode cX6_step 203 = .ok (.aload_n 0, 1) := by decide +kernel
theorem dX6_step_204 : decode cX6_step 204 = .ok (.getfield 30, 3) := by decide +kernel
theorem dX6_step_207 : decode cX6_step 207 = .ok (.baload, 1) := by decide +kernel
theorem dX6_step_208 : decode cX6_step 208 = .ok (.iadd, 1) := by decide +kernel
theorem dX6_step_209 : decode cX6_step 209 = .ok (.bipush 48, 2) := by decide +kernel
theorem dX6_step_211 : decode cX6_step 211 = .ok (.isub, 1) := by decide +kernel
theorem dX6_step_212 : decode cX6_step 212 = .ok (.invokestatic 153, 3) := by decide +kernel
theorem dX6_step_215 : decode cX6_step 215 = .ok (.putfield 133, 3) := by decide +kernel
theorem dX6_step_218 : decode cX6_step 218 = .ok (.aload_n 0, 1) := by decide +kernel
theorem dX6_step_219 : decode cX6_step 219 = .ok (.dup, 1) := by decide +kernel
theorem dX6_step_220 : decode cX6_step 220 = .ok (.getfield 30, 3) := by decide +kernel
theorem dX6_step_223 : decode cX6_step 223 = .ok (.iconst 1, 1) := by decide +kernel
theorem dX6_step_224 : decode cX6_step 224 = .ok (.iadd, 1) := by decide +kernel
theorem dX6_step_225 : decode cX6_step 225 = .ok (.putfield 30, 3) := by decide +kernel
theorem dX6_step_228 : decode cX6_step 228 = .ok (.goto (-65), 3) := by decide +kernel
theorem dX6_step_231 : decode cX6_step 231 = .ok (.aload_n 0, 1) := by decide +kernel
theorem dX6_step_232 : decode cX6_step 232 = .ok (.aload_n 0, 1) := by decide +kernel
theorem dX6_step_233 : decode cX6_step 233 = .ok (.getfield 9, 3) := by decide +kernel
theorem dX6_step_236 : decode cX6_step 236 = .ok (.aload_n 0, 1) := by decide +kernel
theorem dX6_step_237 : decode cX6_step 237 = .ok (.getfield 30, 3) := by decide +kernel
theorem dX6_step_240 : decode cX6_step 240 = .ok (.baload, 1) := by decide +kernel
theorem dX6_step_241 : decode cX6_step 241 = .ok (.bipush 59, 2) := by decide +kernel
theorem dX6_step_243 : decode cX6_step 243 = .ok (.if_icmp .ne 7, 3) := by decide +kernel
theorem dX6_step_246 : decode cX6_step 246 = .ok (.iconst 1, 1) := by decide +kernel
theorem dX6_step_247 : decode cX6_step 247 = .ok (.goto 4, 3) := by decide +kernel
theorem dX6_step_250 : decode cX6_step 250 = .ok (.iconst 4, 1) := by decide +kernel
theorem dX6_step_251 : decode cX6_step 251 = .ok (.putfield 36, 3) := by decide +kernel
theorem dX6_step_254 : decode cX6_step 254 = .ok (.aload_n 0, 1) := by decide +kernel
theorem dX6_step_255 : decode cX6_step 255 = .ok (.dup, 1) := by decide +kernel
theorem dX6_step_256 : decode cX6_step 256 = .ok (.getfield 30, 3) := by decide +kernel
theorem dX6_step_259 : decode cX6_step 259 = .ok (.iconst 1, 1) := by decide +kernel
theorem dX6_step_260 : decode cX6_step 260 = .ok (.iadd, 1) := by decide +kernel
theorem dX6_step_261 : decode cX6_step 261 = .ok (.putfield 30, 3) := by decide +kernel
theorem dX6_step_264 : decode cX6_step 264 = .ok (.return_, 1) := by decide +kernel
theorem dX6_take_0 : decode cX6_take 0 = .ok (.bipush 24, 2) := by decide +kernel
theorem dX6_take_2 : decode cX6_take 2 = .ok (.istore_n 2, 1) := by decide +kernel
theorem dX6_take_3 : decode cX6_take 3 = .ok (.iload_n 2, 1) := by decide +kernel
theorem dX6_take_4 : decode cX6_take 4 = .ok (.ifCond .lt 42, 3) := by decide +kernel
theorem dX6_take_7 : decode cX6_take 7 = .ok (.aload_n 0, 1) := by decide +kernel
theorem dX6_take_8 : decode cX6_take 8 = .ok (.getfield 19, 3) := by decide +kernel
theorem dX6_take_11 : decode cX6_take 11 = .ok (.sipush 800, 3) := by decide +kernel
theorem dX6_take_14 : decode cX6_take 14 = .ok (.if_icmp .ge 32, 3) := by decide +kernel
theorem dX6_take_17 : decode cX6_take 17 = .ok (.aload_n 0, 1) := by decide +kernel
theorem dX6_take_18 : decode cX6_take 18 = .ok (.getfield 9, 3) := by decide +kernel
theorem dX6_take_21 : decode cX6_take 21 = .ok (.aload_n 0, 1) := by decide +kernel
theorem dX6_take_22 : decode cX6_take 22 = .ok (.getfield 19, 3) := by decide +kernel
theorem dX6_take_25 : decode cX6_take 25 = .ok (.iload_n 1, 1) := by decide +kernel
theorem dX6_take_26 : decode cX6_take 26 = .ok (.iload_n 2, 1) := by decide +kernel
theorem dX6_take_27 : decode cX6_take 27 = .ok (.ishr, 1) := by decide +kernel
theorem dX6_take_28 : decode cX6_take 28 = .ok (.i2b, 1) := by decide +kernel
theorem dX6_take_29 : decode cX6_take 29 = .ok (.bastore, 1) := by decide +kernel
theorem dX6_take_30 : decode cX6_take 30 = .ok (.aload_n 0, 1) := by decide +kernel
theorem dX6_take_31 : decode cX6_take 31 = .ok (.dup, 1) := by decide +kernel
theorem dX6_take_32 : decode cX6_take 32 = .ok (.getfield 19, 3) := by decide +kernel
theorem dX6_take_35 : decode cX6_take 35 = .ok (.iconst 1, 1) := by decide +kernel
theorem dX6_take_36 : decode cX6_take 36 = .ok (.iadd, 1) := by decide +kernel
theorem dX6_take_37 : decode cX6_take 37 = .ok (.putfield 19, 3) := by decide +kernel
theorem dX6_take_40 : decode cX6_take 40 = .ok (.iinc 2 (-8), 3) := by decide +kernel
theorem dX6_take_43 : decode cX6_take 43 = .ok (.goto (-40), 3) := by decide +kernel
theorem dX6_take_46 : decode cX6_take 46 = .ok (.return_, 1) := by decide +kernel
theorem dX6_tell_0 : decode cX6_tell 0 = .ok (.aload_n 1, 1) := by decide +kernel
theorem dX6_tell_1 : decode cX6_tell 1 = .ok (.invokevirtual 22, 3) := by decide +kernel
theorem dX6_tell_4 : decode cX6_tell 4 = .ok (.aload_n 0, 1) := by decide +kernel
theorem dX6_tell_5 : decode cX6_tell 5 = .ok (.iconst 0, 1) := by decide +kernel
theorem dX6_tell_6 : decode cX6_tell 6 = .ok (.putfield 27, 3) := by decide +kernel
theorem dX6_tell_9 : decode cX6_tell 9 = .ok (.aload_n 0, 1) := by decide +kernel
theorem dX6_tell_10 : decode cX6_tell 10 = .ok (.iconst (-1), 1) := by decide +kernel
theorem dX6_tell_11 : decode cX6_tell 11 = .ok (.putfield 15, 3) := by decide +kernel
theorem dX6_tell_14 : decode cX6_tell 14 = .ok (.aload_n 0, 1) := by decide +kernel
theorem dX6_tell_15 : decode cX6_tell 15 = .ok (.iconst 0, 1) := by decide +kernel
theorem dX6_tell_16 : decode cX6_tell 16 = .ok (.putfield 30, 3) := by decide +kernel
theorem dX6_tell_19 : decode cX6_tell 19 = .ok (.aload_n 0, 1) := by decide +kernel
theorem dX6_tell_20 : decode cX6_tell 20 = .ok (.invokevirtual 33, 3) := by decide +kernel
theorem dX6_tell_23 : decode cX6_tell 23 = .ok (.iconst 0, 1) := by decide +kernel
theorem dX6_tell_24 : decode cX6_tell 24 = .ok (.istore_n 2, 1) := by decide +kernel
theorem dX6_tell_25 : decode cX6_tell 25 = .ok (.iload_n 2, 1) := by decide +kernel
theorem dX6_tell_26 : decode cX6_tell 26 = .ok (.sipush 800, 3) := by decide +kernel
theorem dX6_tell_29 : decode cX6_tell 29 = .ok (.if_icmp .gt 28, 3) := by decide +kernel
theorem dX6_tell_32 : decode cX6_tell 32 = .ok (.aload_n 0, 1) := by decide +kernel
theorem dX6_tell_33 : decode cX6_tell 33 = .ok (.getfield 36, 3) := by decide +kernel
theorem dX6_tell_36 : decode cX6_tell 36 = .ok (.ifCond .eq 21, 3) := by decide +kernel
theorem dX6_tell_39 : decode cX6_tell 39 = .ok (.aload_n 0, 1) := by decide +kernel
theorem dX6_tell_40 : decode cX6_tell 40 = .ok (.getfield 27, 3) := by decide +kernel
theorem dX6_tell_43 : decode cX6_tell 43 = .ok (.ifCond .ne 14, 3) := by decide +kernel
theorem dX6_tell_46 : decode cX6_tell 46 = .ok (.aload_n 0, 1) := by decide +kernel
theorem dX6_tell_47 : decode cX6_tell 47 = .ok (.aload_n 1, 1) := by decide +kernel
theorem dX6_tell_48 : decode cX6_tell 48 = .ok (.invokevirtual 39, 3) := by decide +kernel
theorem dX6_tell_51 : decode cX6_tell 51 = .ok (.iinc 2 1, 3) := by decide +kernel
theorem dX6_tell_54 : decode cX6_tell 54 = .ok (.goto (-29), 3) := by decide +kernel
theorem dX6_tell_57 : decode cX6_tell 57 = .ok (.aload_n 0, 1) := by decide +kernel
theorem dX6_tell_58 : decode cX6_tell 58 = .ok (.getfield 27, 3) := by decide +kernel
theorem dX6_tell_61 : decode cX6_tell 61 = .ok (.ifCond .ne 7, 3) := by decide +kernel
theorem dX6_tell_64 : decode cX6_tell 64 = .ok (.iconst 1, 1) := by decide +kernel
theorem dX6_tell_65 : decode cX6_tell 65 = .ok (.goto 4, 3) := by decide +kernel
theorem dX6_tell_68 : decode cX6_tell 68 = .ok (.iconst 0, 1) := by decide +kernel
theorem dX6_tell_69 : decode cX6_tell 69 = .ok (.ireturn, 1) := by decide +kernel
theorem dX7_addAct_0 : decode cX7_addAct 0 = .ok (.aload_n 0, 1) := by decide +kernel
theorem dX7_addAct_1 : decode cX7_addAct 1 = .ok (.getfield 58, 3) := by decide +kernel
theorem dX7_addAct_4 : decode cX7_addAct 4 = .ok (.bipush 40, 2) := by decide +kernel
theorem dX7_addAct_6 : decode cX7_addAct 6 = .ok (.if_icmp .ge 43, 3) := by decide +kernel
theorem dX7_addAct_9 : decode cX7_addAct 9 = .ok (.aload_n 0, 1) := by decide +kernel
theorem dX7_addAct_10 : decode cX7_addAct 10 = .ok (.getfield 27, 3) := by decide +kernel
theorem dX7_addAct_13 : decode cX7_addAct 13 = .ok (.aload_n 0, 1) := by decide +kernel
theorem dX7_addAct_14 : decode cX7_addAct 14 = .ok (.getfield 58, 3) := by decide +kernel
theorem dX7_addAct_17 : decode cX7_addAct 17 = .ok (.iload_n 1, 1) := by decide +kernel
theorem dX7_addAct_18 : decode cX7_addAct 18 = .ok (.iastore, 1) := by decide +kernel
theorem dX7_addAct_19 : decode cX7_addAct 19 = .ok (.aload_n 0, 1) := by decide +kernel
theorem dX7_addAct_20 : decode cX7_addAct 20 = .ok (.getfield 30, 3) := by decide +kernel
theorem dX7_addAct_23 : decode cX7_addAct 23 = .ok (.aload_n 0, 1) := by decide +kernel
theorem dX7_addAct_24 : decode cX7_addAct 24 = .ok (.getfield 58, 3) := by decide +kernel
theorem dX7_addAct_27 : decode cX7_addAct 27 = .ok (.iload_n 2, 1) := by decide +kernel
theorem dX7_addAct_28 : decode cX7_addAct 28 = .ok (.iastore, 1) := by decide +kernel
theorem dX7_addAct_29 : decode cX7_addAct 29 = .ok (.aload_n 0, 1) := by decide +kernel
theorem dX7_addAct_30 : decode cX7_addAct 30 = .ok (.getfield 33, 3) := by decide +kernel
theorem dX7_addAct_33 : decode cX7_addAct 33 = .ok (.aload_n 0, 1) := by decide +kernel
theorem dX7_addAct_34 : decode cX7_addAct 34 = .ok (.getfield 58, 3) := by decide +kernel
theorem dX7_addAct_37 : decode cX7_addAct 37 = .ok (.iload_n 3, 1) := by decide +kernel
theorem dX7_addAct_38 : decode cX7_addAct 38 = .ok (.iastore, 1) := by decide +kernel
theorem dX7_addAct_39 : decode cX7_addAct 39 = .ok (.aload_n 0, 1) := by decide +kernel
theorem dX7_addAct_40 : decode cX7_addAct 40 = .ok (.dup, 1) := by decide +kernel
theorem dX7_addAct_41 : decode cX7_addAct 41 = .ok (.getfield 58, 3) := by decide +kernel
theorem dX7_addAct_44 : decode cX7_addAct 44 = .ok (.iconst 1, 1) := by decide +kernel
theorem dX7_addAct_45 : decode cX7_addAct 45 = .ok (.iadd, 1) := by decide +kernel
theorem dX7_addAct_46 : decode cX7_addAct 46 = .ok (.putfield 58, 3) := by decide +kernel
theorem dX7_addAct_49 : decode cX7_addAct 49 = .ok (.return_, 1) := by decide +kernel
theorem dX7_clear_0 : decode cX7_clear 0 = .ok (.aload_n 0, 1) := by decide +kernel
theorem dX7_clear_1 : decode cX7_clear 1 = .ok (.iconst 0, 1) := by decide +kernel
theorem dX7_clear_2 : decode cX7_clear 2 = .ok (.putfield 36, 3) := by decide +kernel
theorem dX7_clear_5 : decode cX7_clear 5 = .ok (.aload_n 0, 1) := by decide +kernel
theorem dX7_clear_6 : decode cX7_clear 6 = .ok (.iconst 0, 1) := by decide +kernel
theorem dX7_clear_7 : decode cX7_clear 7 = .ok (.putfield 40, 3) := by decide +kernel
theorem dX7_clear_10 : decode cX7_clear 10 = .ok (.aload_n 0, 1) := by decide +kernel
theorem dX7_clear_11 : decode cX7_clear 11 = .ok (.iconst 0, 1) := by decide +kernel
theorem dX7_clear_12 : decode cX7_clear 12 = .ok (.putfield 43, 3) := by decide +kernel
theorem dX7_clear_15 : decode cX7_clear 15 = .ok (.aload_n 0, 1) := by decide +kernel
theorem dX7_clear_16 : decode cX7_clear 16 = .ok (.iconst 0, 1) := by decide +kernel
theorem dX7_clear_17 : decode cX7_clear 17 = .ok (.putfield 46, 3) := by decide +kernel
theorem dX7_clear_20 : decode cX7_clear 20 = .ok (.aload_n 0, 1) := by decide +kernel
theorem dX7_clear_21 : decode cX7_clear 21 = .ok (.iconst 0, 1) := by decide +kernel
theorem dX7_clear_22 : decode cX7_clear 22 = .ok (.putfield 49, 3) := by decide +kernel
theorem dX7_clear_25 : decode cX7_clear 25 = .ok (.aload_n 0, 1) := by decide +kernel
theorem dX7_clear_26 : decode cX7_clear 26 = .ok (.iconst 0, 1) := by decide +kernel
theorem dX7_clear_27 : decode cX7_clear 27 = .ok (.putfield 52, 3) := by decide +kernel
theorem dX7_clear_30 : decode cX7_clear 30 = .ok (.aload_n 0, 1) := by decide +kernel
theorem dX7_clear_31 : decode cX7_clear 31 = .ok (.iconst 0, 1) := by decide +kernel
theorem dX7_clear_32 : decode cX7_clear 32 = .ok (.putfield 55, 3) := by decide +kernel
theorem dX7_clear_35 : decode cX7_clear 35 = .ok (.aload_n 0, 1) := by decide +kernel
theorem dX7_clear_36 : decode cX7_clear 36 = .ok (.iconst 0, 1) := by decide +kernel
theorem dX7_clear_37 : decode cX7_clear 37 = .ok (.putfield 58, 3) := by decide +kernel
theorem dX7_clear_40 : decode cX7_clear 40 = .ok (.return_, 1) := by decide +kernel
theorem dX7_copyFrom_0 : decode cX7_copyFrom 0 = .ok (.aload_n 0, 1) := by decide +kernel
theorem dX7_copyFrom_1 : decode cX7_copyFrom 1 = .ok (.aload_n 1, 1) := by decide +kernel
theorem dX7_copyFrom_2 : decode cX7_copyFrom 2 = .ok (.getfield 36, 3) := by decide +kernel
theorem dX7_copyFrom_5 : decode cX7_copyFrom 5 = .ok (.putfield 36, 3) := by decide +kernel
theorem dX7_copyFrom_8 : decode cX7_copyFrom 8 = .ok (.aload_n 0, 1) := by decide +kernel
theorem dX7_copyFrom_9 : decode cX7_copyFrom 9 = .ok (.aload_n 1, 1) := by decide +kernel
theorem dX7_copyFrom_10 : decode cX7_copyFrom 10 = .ok (.getfield 40, 3) := by decide +kernel
theorem dX7_copyFrom_13 : decode cX7_copyFrom 13 = .ok (.putfield 40, 3) := by decide +kernel
theorem dX7_copyFrom_16 : decode cX7_copyFrom 16 = .ok (.aload_n 0, 1) := by decide +kernel
theorem dX7_copyFrom_17 : decode cX7_copyFrom 17 = .ok (.aload_n 1, 1) := by decide +kernel
theorem dX7_copyFrom_18 : decode cX7_copyFrom 18 = .ok (.getfield 43, 3) := by decide +kernel
theorem dX7_copyFrom_21 : decode cX7_copyFrom 21 = .ok (.putfield 43, 3) := by decide +kernel
theorem dX7_copyFrom_24 : decode cX7_copyFrom 24 = .ok (.aload_n 0, 1) := by decide +kernel
theorem dX7_copyFrom_25 : decode cX7_copyFrom 25 = .ok (.aload_n 1, 1) := by decide +kernel
theorem dX7_copyFrom_26 : decode cX7_copyFrom 26 = .ok (.getfield 46, 3) := by decide +kernel
theorem dX7_copyFrom_29 : decode cX7_copyFrom 29 = .ok (.putfield 46, 3) := by decide +kernel
theorem dX7_copyFrom_32 : decode cX7_copyFrom 32 = .ok (.aload_n 0, 1) := by decide +kernel
theorem dX7_copyFrom_33 : decode cX7_copyFrom 33 = .ok (.aload_n 1, 1) := by decide +kernel
theorem dX7_copyFrom_34 : decode cX7_copyFrom 34 = .ok (.getfield 49, 3) := by decide +kernel
theorem dX7_copyFrom_37 : decode cX7_copyFrom 37 = .ok (.putfield 49, 3) := by decide +kernel
theorem dX7_copyFrom_40 : decode cX7_copyFrom 40 = .ok (.aload_n 0, 1) := by decide +kernel
theorem dX7_copyFrom_41 : decode cX7_copyFrom 41 = .ok (.aload_n 1, 1) := by decide +kernel
theorem dX7_copyFrom_42 : decode cX7_copyFrom 42 = .ok (.getfield 52, 3) := by decide +kernel
theorem dX7_copyFrom_45 : decode cX7_copyFrom 45 = .ok (.putfield 52, 3) := by decide +kernel
theorem dX7_copyFrom_48 : decode cX7_copyFrom 48 = .ok (.aload_n 0, 1) := by decide +kernel
theorem dX7_copyFrom_49 : decode cX7_copyFrom 49 = .ok (.aload_n 1, 1) := by decide +kernel
theorem dX7_copyFrom_50 : decode cX7_copyFrom 50 = .ok (.getfield 55, 3) := by decide +kernel
theorem dX7_copyFrom_53 : decode cX7_copyFrom 53 = .ok (.putfield 55, 3) := by decide +kernel
theorem dX7_copyFrom_56 : decode cX7_copyFrom 56 = .ok (.aload_n 0, 1) := by decide +kernel
theorem dX7_copyFrom_57 : decode cX7_copyFrom 57 = .ok (.aload_n 1, 1) := by decide +kernel
theorem dX7_copyFrom_58 : decode cX7_copyFrom 58 = .ok (.getfield 58, 3) := by decide +kernel
theorem dX7_copyFrom_61 : decode cX7_copyFrom 61 = .ok (.putfield 58, 3) := by decide +kernel
theorem dX7_copyFrom_64 : decode cX7_copyFrom 64 = .ok (.aload_n 1, 1) := by decide +kernel
theorem dX7_copyFrom_65 : decode cX7_copyFrom 65 = .ok (.getfield 9, 3) := by decide +kernel
theorem dX7_copyFrom_68 : decode cX7_copyFrom 68 = .ok (.iconst 0, 1) := by decide +kernel
theorem dX7_copyFrom_69 : decode cX7_copyFrom 69 = .ok (.aload_n 0, 1) := by decide +kernel
theorem dX7_copyFrom_70 : decode cX7_copyFrom 70 = .ok (.getfield 9, 3) := by decide +kernel
theorem dX7_copyFrom_73 : decode cX7_copyFrom 73 = .ok (.iconst 0, 1) := by decide +kernel
theorem dX7_copyFrom_74 : decode cX7_copyFrom 74 = .ok (.bipush 6, 2) := by decide +kernel
theorem dX7_copyFrom_76 : decode cX7_copyFrom 76 = .ok (.invokestatic 61, 3) := by decide +kernel
theorem dX7_copyFrom_79 : decode cX7_copyFrom 79 = .ok (.aload_n 1, 1) := by decide +kernel
theorem dX7_copyFrom_80 : decode cX7_copyFrom 80 = .ok (.getfield 15, 3) := by decide +kernel
theorem dX7_copyFrom_83 : decode cX7_copyFrom 83 = .ok (.iconst 0, 1) := by decide +kernel
theorem dX7_copyFrom_84 : decode cX7_copyFrom 84 = .ok (.aload_n 0, 1) := by decide +kernel
theorem dX7_copyFrom_85 : decode cX7_copyFrom 85 = .ok (.getfield 15, 3) := by decide +kernel
theorem dX7_copyFrom_88 : decode cX7_copyFrom 88 = .ok (.iconst 0, 1) := by decide +kernel
theorem dX7_copyFrom_89 : decode cX7_copyFrom 89 = .ok (.bipush 6, 2) := by decide +kernel
theorem dX7_copyFrom_91 : decode cX7_copyFrom 91 = .ok (.invokestatic 61, 3) := by decide +kernel
theorem dX7_copyFrom_94 : decode cX7_copyFrom 94 = .ok (.aload_n 1, 1) := by decide +kernel
theorem dX7_copyFrom_95 : decode cX7_copyFrom 95 = .ok (.getfield 18, 3) := by decide +kernel
theorem dX7_copyFrom_98 : decode cX7_copyFrom 98 = .ok (.iconst 0, 1) := by decide +kernel
theorem dX7_copyFrom_99 : decode cX7_copyFrom 99 = .ok (.aload_n 0, 1) := by decide +kernel
theorem dX7_copyFrom_100 : decode cX7_copyFrom 100 = .ok (.getfield 18, 3) := by decide +kernel
theorem dX7_copyFrom_103 : decode cX7_copyFrom 103 = .ok (.iconst 0, 1) := by decide +kernel
theorem dX7_copyFrom_104 : decode cX7_copyFrom 104 = .ok (.bipush 6, 2) := by decide +kernel
theorem dX7_copyFrom_106 : decode cX7_copyFrom 106 = .ok (.invokestatic 61, 3) := by decide +kernel
theorem dX7_copyFrom_109 : decode cX7_copyFrom 109 = .ok (.aload_n 1, 1) := by decide +kernel
theorem dX7_copyFrom_110 : decode cX7_copyFrom 110 = .ok (.getfield 21, 3) := by decide +kernel
theorem dX7_copyFrom_113 : decode cX7_copyFrom 113 = .ok (.iconst 0, 1) := by decide +kernel
theorem dX7_copyFrom_114 : decode cX7_copyFrom 114 = .ok (.aload_n 0, 1) := by decide +kernel
theorem dX7_copyFrom_115 : decode cX7_copyFrom 115 = .ok (.getfield 21, 3) := by decide +kernel
theorem dX7_copyFrom_118 : decode cX7_copyFrom 118 = .ok (.iconst 0, 1) := by decide +kernel
theorem dX7_copyFrom_119 : decode cX7_copyFrom 119 = .ok (.bipush 6, 2) := by decide +kernel
theorem dX7_copyFrom_121 : decode cX7_copyFrom 121 = .ok (.invokestatic 61, 3) := by decide +kernel
theorem dX7_copyFrom_124 : decode cX7_copyFrom 124 = .ok (.aload_n 1, 1) := by decide +kernel
theorem dX7_copyFrom_125 : decode cX7_copyFrom 125 = .ok (.getfield 24, 3) := by decide +kernel
theorem dX7_copyFrom_128 : decode cX7_copyFrom 128 = .ok (.iconst 0, 1) := by decide +kernel
theorem dX7_copyFrom_129 : decode cX7_copyFrom 129 = .ok (.aload_n 0, 1) := by decide +kernel
theorem dX7_copyFrom_130 : decode cX7_copyFrom 130 = .ok (.getfield 24, 3) := by decide +kernel
theorem dX7_copyFrom_133 : decode cX7_copyFrom 133 = .ok (.iconst 0, 1) := by decide +kernel
theorem dX7_copyFrom_134 : decode cX7_copyFrom 134 = .ok (.bipush 6, 2) := by decide +kernel
theorem dX7_copyFrom_136 : decode cX7_copyFrom 136 = .ok (.invokestatic 61, 3) := by decide +kernel
theorem dX7_copyFrom_139 : decode cX7_copyFrom 139 = .ok (.aload_n 1, 1) := by decide +kernel
theorem dX7_copyFrom_140 : decode cX7_copyFrom 140 = .ok (.getfield 27, 3) := by decide +kernel
theorem dX7_copyFrom_143 : decode cX7_copyFrom 143 = .ok (.iconst 0, 1) := by decide +kernel
theorem dX7_copyFrom_144 : decode cX7_copyFrom 144 = .ok (.aload_n 0, 1) := by decide +kernel
theorem dX7_copyFrom_145 : decode cX7_copyFrom 145 = .ok (.getfield 27, 3) := by decide +kernel
theorem dX7_copyFrom_148 : decode cX7_copyFrom 148 = .ok (.iconst 0, 1) := by decide +kernel
theorem dX7_copyFrom_149 : decode cX7_copyFrom 149 = .ok (.bipush 40, 2) := by decide +kernel
theorem dX7_copyFrom_151 : decode cX7_copyFrom 151 = .ok (.invokestatic 61, 3) := by decide +kernel
theorem dX7_copyFrom_154 : decode cX7_copyFrom 154 = .ok (.aload_n 1, 1) := by decide +kernel
theorem dX7_copyFrom_155 : decode cX7_copyFrom 155 = .ok (.getfield 30, 3) := by decide +kernel
theorem dX7_copyFrom_158 : decode cX7_copyFrom 158 = .ok (.iconst 0, 1) := by decide +kernel
theorem dX7_copyFrom_159 : decode cX7_copyFrom 159 = .ok (.aload_n 0, 1) := by decide +kernel
theorem dX7_copyFrom_160 : decode cX7_copyFrom 160 = .ok (.getfield 30, 3) := by decide +kernel
theorem dX7_copyFrom_163 : decode cX7_copyFrom 163 = .ok (.iconst 0, 1) := by decide +kernel
theorem dX7_copyFrom_164 : decode cX7_copyFrom 164 = .ok (.bipush 40, 2) := by decide +kernel
theorem dX7_copyFrom_166 : decode cX7_copyFrom 166 = .ok (.invokestatic 61, 3) := by decide +kernel
theorem dX7_copyFrom_169 : decode cX7_copyFrom 169 = .ok (.aload_n 1, 1) := by decide +kernel
theorem dX7_copyFrom_170 : decode cX7_copyFrom 170 = .ok (.getfield 33, 3) := by decide +kernel
theorem dX7_copyFrom_173 : decode cX7_copyFrom 173 = .ok (.iconst 0, 1) := by decide +kernel
theorem dX7_copyFrom_174 : decode cX7_copyFrom 174 = .ok (.aload_n 0, 1) := by decide +kernel
theorem dX7_copyFrom_175 : decode cX7_copyFrom 175 = .ok (.getfield 33, 3) := by decide +kernel
theorem dX7_copyFrom_178 : decode cX7_copyFrom 178 = .ok (.iconst 0, 1) := by decide +kernel
theorem dX7_copyFrom_179 : decode cX7_copyFrom 179 = .ok (.bipush 40, 2) := by decide +kernel
theorem dX7_copyFrom_181 : decode cX7_copyFrom 181 = .ok (.invokestatic 61, 3) := by decide +kernel
theorem dX7_copyFrom_184 : decode cX7_copyFrom 184 = .ok (.return_, 1) := by decide +kernel
theorem dX7_init_0 : decode cX7_init 0 = .ok (.aload_n 0, 1) := by decide +kernel
theorem dX7_init_1 : decode cX7_init 1 = .ok (.invokespecial 3, 3) := by decide +kernel
theorem dX7_init_4 : decode cX7_init 4 = .ok (.aload_n 0, 1) := by decide +kernel
theorem dX7_init_5 : decode cX7_init 5 = .ok (.bipush 6, 2) := by decide +kernel
theorem dX7_init_7 : decode cX7_init 7 = .ok (.newarray .int, 2) := by decide +kernel
theorem dX7_init_9 : decode cX7_init 9 = .ok (.putfield 9, 3) := by decide +kernel
theorem dX7_init_12 : decode cX7_init 12 = .ok (.aload_n 0, 1) := by decide +kernel
theorem dX7_init_13 : decode cX7_init 13 = .ok (.bipush 6, 2) := by decide +kernel
theorem dX7_init_15 : decode cX7_init 15 = .ok (.newarray .int, 2) := by decide +kernel
theorem dX7_init_17 : decode cX7_init 17 = .ok (.putfield 15, 3) := by decide +kernel
theorem dX7_init_20 : decode cX7_init 20 = .ok (.aload_n 0, 1) := by decide +kernel
theorem dX7_init_21 : decode cX7_init 21 = .ok (.bipush 6, 2) := by decide +kernel
theorem dX7_init_23 : decode cX7_init 23 = .ok (.newarray .int, 2) := by decide +kernel
theorem dX7_init_25 : decode cX7_init 25 = .ok (.putfield 18, 3) := by decide +kernel
theorem dX7_init_28 : decode cX7_init 28 = .ok (.aload_n 0, 1) := by decide +kernel
theorem dX7_init_29 : decode cX7_init 29 = .ok (.bipush 6, 2) := by decide +kernel
theorem dX7_init_31 : decode cX7_init 31 = .ok (.newarray .int, 2) := by decide +kernel
theorem dX7_init_33 : decode cX7_init 33 = .ok (.putfield 21, 3) := by decide +kernel
theorem dX7_init_36 : decode cX7_init 36 = .ok (.aload_n 0, 1) := by decide +kernel
theorem dX7_init_37 : decode cX7_init 37 = .ok (.bipush 6, 2) := by decide +kernel
theorem dX7_init_39 : decode cX7_init 39 = .ok (.newarray .int, 2) := by decide +kernel
theorem dX7_init_41 : decode cX7_init 41 = .ok (.putfield 24, 3) := by decide +kernel
theorem dX7_init_44 : decode cX7_init 44 = .ok (.aload_n 0, 1) := by decide +kernel
theorem dX7_init_45 : decode cX7_init 45 = .ok (.bipush 40, 2) := by decide +kernel
theorem dX7_init_47 : decode cX7_init 47 = .ok (.newarray .int, 2) := by decide +kernel
theorem dX7_init_49 : decode cX7_init 49 = .ok (.putfield 27, 3) := by decide +kernel
theorem dX7_init_52 : decode cX7_init 52 = .ok (.aload_n 0, 1) := by decide +kernel
theorem dX7_init_53 : decode cX7_init 53 = .ok (.bipush 40, 2) := by decide +kernel
theorem dX7_init_55 : decode cX7_init 55 = .ok (.newarray .int, 2) := by decide +kernel
theorem dX7_init_57 : decode cX7_init 57 = .ok (.putfield 30, 3) := by decide +kernel
theorem dX7_init_60 : decode cX7_init 60 = .ok (.aload_n 0, 1) := by decide +kernel
theorem dX7_init_61 : decode cX7_init 61 = .ok (.bipush 40, 2) := by decide +kernel
theorem dX7_init_63 : decode cX7_init 63 = .ok (.newarray .int, 2) := by decide +kernel
theorem dX7_init_65 : decode cX7_init 65 = .ok (.putfield 33, 3) := by decide +kernel
theorem dX7_init_68 : decode cX7_init 68 = .ok (.return_, 1) := by decide +kernel
theorem dX7_kindIf_0 : decode cX7_kindIf 0 = .ok (.aload_n 0, 1) := by decide +kernel
theorem dX7_kindIf_1 : decode cX7_kindIf 1 = .ok (.getfield 30, 3) := by decide +kernel
theorem dX7_kindIf_4 : decode cX7_kindIf 4 = .ok (.iload_n 1, 1) := by decide +kernel
theorem dX7_kindIf_5 : decode cX7_kindIf 5 = .ok (.iaload, 1) := by decide +kernel
theorem dX7_kindIf_6 : decode cX7_kindIf 6 = .ok (.iload_n 2, 1) := by decide +kernel
theorem dX7_kindIf_7 : decode cX7_kindIf 7 = .ok (.if_icmp .ne 22, 3) := by decide +kernel
theorem dX7_kindIf_10 : decode cX7_kindIf 10 = .ok (.aload_n 0, 1) := by decide +kernel
theorem dX7_kindIf_11 : decode cX7_kindIf 11 = .ok (.getfield 33, 3) := by decide +kernel
theorem dX7_kindIf_14 : decode cX7_kindIf 14 = .ok (.iload_n 1, 1) := by decide +kernel
theorem dX7_kindIf_15 : decode cX7_kindIf 15 = .ok (.iaload, 1) := by decide +kernel
theorem dX7_kindIf_16 : decode cX7_kindIf 16 = .ok (.iload_n 3, 1) := by decide +kernel
theorem dX7_kindIf_17 : decode cX7_kindIf 17 = .ok (.if_icmp .ne 12, 3) := by decide +kernel
theorem dX7_kindIf_20 : decode cX7_kindIf 20 = .ok (.aload_n 0, 1) := by decide +kernel
theorem dX7_kindIf_21 : decode cX7_kindIf 21 = .ok (.getfield 27, 3) := by decide +kernel
theorem dX7_kindIf_24 : decode cX7_kindIf 24 = .ok (.iload_n 1, 1) := by decide +kernel
theorem dX7_kindIf_25 : decode cX7_kindIf 25 = .ok (.iaload, 1) := by decide +kernel
theorem dX7_kindIf_26 : decode cX7_kindIf 26 = .ok (.goto 4, 3) := by decide +kernel
theorem dX7_kindIf_29 : decode cX7_kindIf 29 = .ok (.iconst (-1), 1) := by decide +kernel
theorem dX7_kindIf_30 : decode cX7_kindIf 30 = .ok (.ireturn, 1) := by decide +kernel
theorem dX7_waitOf_0 : decode cX7_waitOf 0 = .ok (.iload_n 0, 1) := by decide +kernel
theorem dX7_waitOf_1 : decode cX7_waitOf 1 = .ok (.sipush 10000, 3) := by decide +kernel
theorem dX7_waitOf_4 : decode cX7_waitOf 4 = .ok (.if_icmp .ne 9, 3) := by decide +kernel
theorem dX7_waitOf_7 : decode cX7_waitOf 7 = .ok (.sipush 600, 3) := by decide +kernel
theorem dX7_waitOf_10 : decode cX7_waitOf 10 = .ok (.goto 4, 3) := by decide +kernel
theorem dX7_waitOf_13 : decode cX7_waitOf 13 = .ok (.iload_n 0, 1) := by decide +kernel
theorem dX7_waitOf_14 : decode cX7_waitOf 14 = .ok (.istore_n 2, 1) := by decide +kernel
theorem dX7_waitOf_15 : decode cX7_waitOf 15 = .ok (.iload_n 2, 1) := by decide +kernel
theorem dX7_waitOf_16 : decode cX7_waitOf 16 = .ok (.ifCond .le 9, 3) := by decide +kernel
theorem dX7_waitOf_19 : decode cX7_waitOf 19 = .ok (.iload_n 2, 1) := by decide +kernel
theorem dX7_waitOf_20 : decode cX7_waitOf 20 = .ok (.iload_n 1, 1) := by decide +kernel
theorem dX7_waitOf_21 : decode cX7_waitOf 21 = .ok (.imul, 1) := by decide +kernel
theorem dX7_waitOf_22 : decode cX7_waitOf 22 = .ok (.goto 4, 3) := by decide +kernel
theorem dX7_waitOf_25 : decode cX7_waitOf 25 = .ok (.iconst 0, 1) := by decide +kernel
theorem dX7_waitOf_26 : decode cX7_waitOf 26 = .ok (.ireturn, 1) := by decide +kernel
theorem dX8_bestQuestion_0 : decode cX8_bestQuestion 0 = .ok (.iconst (-1), 1) := by decide +kernel
theorem dX8_bestQuestion_1 : decode cX8_bestQuestion 1 = .ok (.istore_n 1, 1) := by decide +kernel
theorem dX8_bestQuestion_2 : decode cX8_bestQuestion 2 = .ok (.aload_n 0, 1) := by decide +kernel
theorem dX8_bestQuestion_3 : decode cX8_bestQuestion 3 = .ok (.getfield 38, 3) := by decide +kernel
theorem dX8_bestQuestion_6 : decode cX8_bestQuestion 6 = .ok (.istore_n 2, 1) := by decide +kernel
theorem dX8_bestQuestion_7 : decode cX8_bestQuestion 7 = .ok (.iconst 0, 1) := by decide +kernel
theorem dX8_bestQuestion_8 : decode cX8_bestQuestion 8 = .ok (.istore_n 3, 1) := by decide +kernel
theorem dX8_bestQuestion_9 : decode cX8_bestQuestion 9 = .ok (.iload_n 3, 1) := by decide +kernel
theorem dX8_bestQuestion_10 : decode cX8_bestQuestion 10 = .ok (.bipush 6, 2) := by decide +kernel
theorem dX8_bestQuestion_12 : decode cX8_bestQuestion 12 = .ok (.if_icmp .ge 42, 3) := by decide +kernel
theorem dX8_bestQuestion_15 : decode cX8_bestQuestion 15 = .ok (.aload_n 0, 1) := by decide +kernel
theorem dX8_bestQuestion_16 : decode cX8_bestQuestion 16 = .ok (.getfield 18, 3) := by decide +kernel
theorem dX8_bestQuestion_19 : decode cX8_bestQuestion 19 = .ok (.iload_n 3, 1) := by decide +kernel
theorem dX8_bestQuestion_20 : decode cX8_bestQuestion 20 = .ok (.iaload, 1) := by decide +kernel
theorem dX8_bestQuestion_21 : decode cX8_bestQuestion 21 = .ok (.aload_n 0, 1) := by decide +kernel
theorem dX8_bestQuestion_22 : decode cX8_bestQuestion 22 = .ok (.getfield 38, 3) := by decide +kernel
theorem dX8_bestQuestion_25 : decode cX8_bestQuestion 25 = .ok (.aload_n 0, 1) := by decide +kernel
theorem dX8_bestQuestion_26 : decode cX8_bestQuestion 26 = .ok (.getfield 18, 3) := by decide +kernel
theorem dX8_bestQuestion_29 : decode cX8_bestQuestion 29 = .ok (.iload_n 3, 1) := by decide +kernel
theorem dX8_bestQuestion_30 : decode cX8_bestQuestion 30 = .ok (.iaload, 1) := by decide +kernel
theorem dX8_bestQuestion_31 : decode cX8_bestQuestion 31 = .ok (.isub, 1) := by decide +kernel
theorem dX8_bestQuestion_32 : decode cX8_bestQuestion 32 = .ok (.invokestatic 77, 3) := by decide +kernel
theorem dX8_bestQuestion_35 : decode cX8_bestQuestion 35 = .ok (.istore 4, 2) := by decide +kernel
theorem dX8_bestQuestion_37 : decode cX8_bestQuestion 37 = .ok (.iload 4, 2) := by decide +kernel
theorem dX8_bestQuestion_39 : decode cX8_bestQuestion 39 = .ok (.iload_n 2, 1) := by decide +kernel
theorem dX8_bestQuestion_40 : decode cX8_bestQuestion 40 = .ok (.if_icmp .ge 8, 3) := by decide +kernel
theorem dX8_bestQuestion_43 : decode cX8_bestQuestion 43 = .ok (.iload 4, 2) := by decide +kernel
theorem dX8_bestQuestion_45 : decode cX8_bestQuestion 45 = .ok (.istore_n 2, 1) := by decide +kernel
theorem dX8_bestQuestion_46 : decode cX8_bestQuestion 46 = .ok (.iload_n 3, 1) := by decide +kernel
theorem dX8_bestQuestion_47 : decode cX8_bestQuestion 47 = .ok (.istore_n 1, 1) := by decide +kernel
theorem dX8_bestQuestion_48 : decode cX8_bestQuestion 48 = .ok (.iinc 3 1, 3) := by decide +kernel
theorem dX8_bestQuestion_51 : decode cX8_bestQuestion 51 = .ok (.goto (-42), 3) := by decide +kernel
theorem dX8_bestQuestion_54 : decode cX8_bestQuestion 54 = .ok (.iload_n 1, 1) := by decide +kernel
theorem dX8_bestQuestion_55 : decode cX8_bestQuestion 55 = .ok (.ireturn, 1) := by decide +kernel
theorem dX8_init_0 : decode cX8_init 0 = .ok (.aload_n 0, 1) := by decide +kernel
theorem dX8_init_1 : decode cX8_init 1 = .ok (.invokespecial 3, 3) := by decide +kernel
theorem dX8_init_4 : decode cX8_init 4 = .ok (.aload_n 0, 1) := by decide +kernel
theorem dX8_init_5 : decode cX8_init 5 = .ok (.bipush 30, 2) := by decide +kernel
theorem dX8_init_7 : decode cX8_init 7 = .ok (.newarray .int, 2) := by decide +kernel
theorem dX8_init_9 : decode cX8_init 9 = .ok (.putfield 9, 3) := by decide +kernel
theorem dX8_init_12 : decode cX8_init 12 = .ok (.aload_n 0, 1) := by decide +kernel
theorem dX8_init_13 : decode cX8_init 13 = .ok (.bipush 30, 2) := by decide +kernel
theorem dX8_init_15 : decode cX8_init 15 = .ok (.newarray .int, 2) := by decide +kernel
theorem dX8_init_17 : decode cX8_init 17 = .ok (.putfield 15, 3) := by decide +kernel
theorem dX8_init_20 : decode cX8_init 20 = .ok (.aload_n 0, 1) := by decide +kernel
theorem dX8_init_21 : decode cX8_init 21 = .ok (.bipush 6, 2) := by decide +kernel
theorem dX8_init_23 : decode cX8_init 23 = .ok (.newarray .int, 2) := by decide +kernel
theorem dX8_init_25 : decode cX8_init 25 = .ok (.putfield 18, 3) := by decide +kernel
theorem dX8_init_28 : decode cX8_init 28 = .ok (.return_, 1) := by decide +kernel
theorem dX8_isSeenWith_0 : decode cX8_isSeenWith 0 = .ok (.iconst 0, 1) := by decide +kernel
theorem dX8_isSeenWith_1 : decode cX8_isSeenWith 1 = .ok (.istore 4, 2) := by decide +kernel
theorem dX8_isSeenWith_3 : decode cX8_isSeenWith 3 = .ok (.iload 4, 2) := by decide +kernel
theorem dX8_isSeenWith_5 : decode cX8_isSeenWith 5 = .ok (.aload_n 0, 1) := by decide +kernel
theorem dX8_isSeenWith_6 : decode cX8_isSeenWith 6 = .ok (.getfield 21, 3) := by decide +kernel
theorem dX8_isSeenWith_9 : decode cX8_isSeenWith 9 = .ok (.if_icmp .ge 74, 3) := by decide +kernel
theorem dX8_isSeenWith_12 : decode cX8_isSeenWith 12 = .ok (.aload_n 0, 1) := by decide +kernel
theorem dX8_isSeenWith_13 : decode cX8_isSeenWith 13 = .ok (.getfield 9, 3) := by decide +kernel
theorem dX8_isSeenWith_16 : decode cX8_isSeenWith 16 = .ok (.iload 4, 2) := by decide +kernel
theorem dX8_isSeenWith_18 : decode cX8_isSeenWith 18 = .ok (.iaload, 1) := by decide +kernel
theorem dX8_isSeenWith_19 : decode cX8_isSeenWith 19 = .ok (.istore 5, 2) := by decide +kernel
theorem dX8_isSeenWith_21 : decode cX8_isSeenWith 21 = .ok (.iload_n 2, 1) := by decide +kernel
theorem dX8_isSeenWith_22 : decode cX8_isSeenWith 22 = .ok (.iload 5, 2) := by decide +kernel
theorem dX8_isSeenWith_24 : decode cX8_isSeenWith 24 = .ok (.iload_n 3, 1) := by decide +kernel
theorem dX8_isSeenWith_25 : decode cX8_isSeenWith 25 = .ok (.imul, 1) := by decide +kernel
theorem dX8_isSeenWith_26 : decode cX8_isSeenWith 26 = .ok (.iadd, 1) := by decide +kernel
theorem dX8_isSeenWith_27 : decode cX8_isSeenWith 27 = .ok (.istore 6, 2) := by decide +kernel
theorem dX8_isSeenWith_29 : decode cX8_isSeenWith 29 = .ok (.aload_n 1, 1) := by decide +kernel
theorem dX8_isSeenWith_30 : decode cX8_isSeenWith 30 = .ok (.getfield 52, 3) := by decide +kernel
theorem dX8_isSeenWith_33 : decode cX8_isSeenWith 33 = .ok (.iload 5, 2) := by decide +kernel
theorem dX8_isSeenWith_35 : decode cX8_isSeenWith 35 = .ok (.iaload, 1) := by decide +kernel
theorem dX8_isSeenWith_36 : decode cX8_isSeenWith 36 = .ok (.ifCond .eq 27, 3) := by decide +kernel
theorem dX8_isSeenWith_39 : decode cX8_isSeenWith 39 = .ok (.iload 6, 2) := by decide +kernel
theorem dX8_isSeenWith_41 : decode cX8_isSeenWith 41 = .ok (.aload_n 1, 1) := by decide +kernel
theorem dX8_isSeenWith_42 : decode cX8_isSeenWith 42 = .ok (.getfield 63, 3) := by decide +kernel
theorem dX8_isSeenWith_45 : decode cX8_isSeenWith 45 = .ok (.iload 5, 2) := by decide +kernel
theorem dX8_isSeenWith_47 : decode cX8_isSeenWith 47 = .ok (.aaload, 1) := by decide +kernel
theorem dX8_isSeenWith_48 : decode cX8_isSeenWith 48 = .ok (.aload_n 1, 1) := by decide +kernel
theorem dX8_isSeenWith_49 : decode cX8_isSeenWith 49 = .ok (.getfield 52, 3) := by decide +kernel
theorem dX8_isSeenWith_52 : decode cX8_isSeenWith 52 = .ok (.iload 5, 2) := by decide +kernel
theorem dX8_isSeenWith_54 : decode cX8_isSeenWith 54 = .ok (.iaload, 1) := by decide +kernel
theorem dX8_isSeenWith_55 : decode cX8_isSeenWith 55 = .ok (.invokestatic 67, 3) := by decide +kernel
theorem dX8_isSeenWith_58 : decode cX8_isSeenWith 58 = .ok (.invokestatic 77, 3) := by decide +kernel
theorem dX8_isSeenWith_61 : decode cX8_isSeenWith 61 = .ok (.istore 6, 2) := by decide +kernel
theorem dX8_isSeenWith_63 : decode cX8_isSeenWith 63 = .ok (.iload 6, 2) := by decide +kernel
theorem dX8_isSeenWith_65 : decode cX8_isSeenWith 65 = .ok (.aload_n 0, 1) := by decide +kernel
theorem dX8_isSeenWith_66 : decode cX8_isSeenWith 66 = .ok (.getfield 15, 3) := by decide +kernel
theorem dX8_isSeenWith_69 : decode cX8_isSeenWith 69 = .ok (.iload 4, 2) := by decide +kernel
theorem dX8_isSeenWith_71 : decode cX8_isSeenWith 71 = .ok (.iaload, 1) := by decide +kernel
theorem dX8_isSeenWith_72 : decode cX8_isSeenWith 72 = .ok (.if_icmp .eq 5, 3) := by decide +kernel
theorem dX8_isSeenWith_75 : decode cX8_isSeenWith 75 = .ok (.iconst 0, 1) := by decide +kernel
theorem dX8_isSeenWith_76 : decode cX8_isSeenWith 76 = .ok (.ireturn, 1) := by decide +kernel
theorem dX8_isSeenWith_77 : decode cX8_isSeenWith 77 = .ok (.iinc 4 1, 3) := by decide +kernel
theorem dX8_isSeenWith_80 : decode cX8_isSeenWith 80 = .ok (.goto (-77), 3) := by decide +kernel
theorem dX8_isSeenWith_83 : decode cX8_isSeenWith 83 = .ok (.iconst 1, 1) := by decide +kernel
theorem dX8_isSeenWith_84 : decode cX8_isSeenWith 84 = .ok (.ireturn, 1) := by decide +kernel
theorem dX8_isSeenWithout_0 : decode cX8_isSeenWithout 0 = .ok (.iconst 0, 1) := by decide +kernel
theorem dX8_isSeenWithout_1 : decode cX8_isSeenWithout 1 = .ok (.istore_n 3, 1) := by decide +kernel
theorem dX8_isSeenWithout_2 : decode cX8_isSeenWithout 2 = .ok (.iload_n 3, 1) := by decide +kernel
theorem dX8_isSeenWithout_3 : decode cX8_isSeenWithout 3 = .ok (.aload_n 0, 1) := by decide +kernel
theorem dX8_isSeenWithout_4 : decode cX8_isSeenWithout 4 = .ok (.getfield 21, 3) := by decide +kernel
theorem dX8_isSeenWithout_7 : decode cX8_isSeenWithout 7 = .ok (.if_icmp .ge 49, 3) := by decide +kernel
theorem dX8_isSeenWithout_10 : decode cX8_isSeenWithout 10 = .ok (.aload_n 0, 1) := by decide +kernel
theorem dX8_isSeenWithout_11 : decode cX8_isSeenWithout 11 = .ok (.getfield 9, 3) := by decide +kernel
theorem dX8_isSeenWithout_14 : decode cX8_isSeenWithout 14 = .ok (.iload_n 3, 1) := by decide +kernel
theorem dX8_isSeenWithout_15 : decode cX8_isSeenWithout 15 = .ok (.iaload, 1) := by decide +kernel
theorem dX8_isSeenWithout_16 : decode cX8_isSeenWithout 16 = .ok (.istore 4, 2) := by decide +kernel
theorem dX8_isSeenWithout_18 : decode cX8_isSeenWithout 18 = .ok (.aload_n 1, 1) := by decide +kernel
theorem dX8_isSeenWithout_19 : decode cX8_isSeenWithout 19 = .ok (.getfield 63, 3) := by decide +kernel
theorem dX8_isSeenWithout_22 : decode cX8_isSeenWithout 22 = .ok (.iload 4, 2) := by decide +kernel
theorem dX8_isSeenWithout_24 : decode cX8_isSeenWithout 24 = .ok (.aaload, 1) := by decide +kernel
theorem dX8_isSeenWithout_25 : decode cX8_isSeenWithout 25 = .ok (.aload_n 1, 1) := by decide +kernel
theorem dX8_isSeenWithout_26 : decode cX8_isSeenWithout 26 = .ok (.getfield 52, 3) := by decide +kernel
theorem dX8_isSeenWithout_29 : decode cX8_isSeenWithout 29 = .ok (.iload 4, 2) := by decide +kernel
theorem dX8_isSeenWithout_31 : decode cX8_isSeenWithout 31 = .ok (.iaload, 1) := by decide +kernel
theorem dX8_isSeenWithout_32 : decode cX8_isSeenWithout 32 = .ok (.iload_n 2, 1) := by decide +kernel
theorem dX8_isSeenWithout_33 : decode cX8_isSeenWithout 33 = .ok (.iconst (-1), 1) := by decide +kernel
theorem dX8_isSeenWithout_34 : decode cX8_isSeenWithout 34 = .ok (.ixor, 1) := by decide +kernel
theorem dX8_isSeenWithout_35 : decode cX8_isSeenWithout 35 = .ok (.iand, 1) := by decide +kernel
theorem dX8_isSeenWithout_36 : decode cX8_isSeenWithout 36 = .ok (.invokestatic 67, 3) := by decide +kernel
theorem dX8_isSeenWithout_39 : decode cX8_isSeenWithout 39 = .ok (.aload_n 0, 1) := by decide +kernel
theorem dX8_isSeenWithout_40 : decode cX8_isSeenWithout 40 = .ok (.getfield 15, 3) := by decide +kernel
theorem dX8_isSeenWithout_43 : decode cX8_isSeenWithout 43 = .ok (.iload_n 3, 1) := by decide +kernel
theorem dX8_isSeenWithout_44 : decode cX8_isSeenWithout 44 = .ok (.iaload, 1) := by decide +kernel
theorem dX8_isSeenWithout_45 : decode cX8_isSeenWithout 45 = .ok (.if_icmp .eq 5, 3) := by decide +kernel
theorem dX8_isSeenWithout_48 : decode cX8_isSeenWithout 48 = .ok (.iconst 0, 1) := by decide +kernel
theorem dX8_isSeenWithout_49 : decode cX8_isSeenWithout 49 = .ok (.ireturn, 1) := by decide +kernel
theorem dX8_isSeenWithout_50 : decode cX8_isSeenWithout 50 = .ok (.iinc 3 1, 3) := by decide +kernel
theorem dX8_isSeenWithout_53 : decode cX8_isSeenWithout 53 = .ok (.goto (-51), 3) := by decide +kernel
theorem dX8_isSeenWithout_56 : decode cX8_isSeenWithout 56 = .ok (.iconst 1, 1) := by decide +kernel
theorem dX8_isSeenWithout_57 : decode cX8_isSeenWithout 57 = .ok (.ireturn, 1) := by decide +kernel
theorem dX8_listen_0 : decode cX8_listen 0 = .ok (.aload_n 0, 1) := by decide +kernel
theorem dX8_listen_1 : decode cX8_listen 1 = .ok (.iconst 0, 1) := by decide +kernel
theorem dX8_listen_2 : decode cX8_listen 2 = .ok (.putfield 21, 3) := by decide +kernel
theorem dX8_listen_5 : decode cX8_listen 5 = .ok (.aload_n 1, 1) := by decide +kernel
theorem dX8_listen_6 : decode cX8_listen 6 = .ok (.getfield 25, 3) := by decide +kernel
theorem dX8_listen_9 : decode cX8_listen 9 = .ok (.iconst 2, 1) := by decide +kernel
theorem dX8_listen_10 : decode cX8_listen 10 = .ok (.irem, 1) := by decide +kernel
theorem dX8_listen_11 : decode cX8_listen 11 = .ok (.ifCond .eq 5, 3) := by decide +kernel
theorem dX8_listen_14 : decode cX8_listen 14 = .ok (.iconst 0, 1) := by decide +kernel
theorem dX8_listen_15 : decode cX8_listen 15 = .ok (.ireturn, 1) := by decide +kernel
theorem dX8_listen_16 : decode cX8_listen 16 = .ok (.iconst 0, 1) := by decide +kernel
theorem dX8_listen_17 : decode cX8_listen 17 = .ok (.istore_n 3, 1) := by decide +kernel
theorem dX8_listen_18 : decode cX8_listen 18 = .ok (.iload_n 3, 1) := by decide +kernel
theorem dX8_listen_19 : decode cX8_listen 19 = .ok (.iconst 1, 1) := by decide +kernel
theorem dX8_listen_20 : decode cX8_listen 20 = .ok (.iadd, 1) := by decide +kernel
theorem dX8_listen_21 : decode cX8_listen 21 = .ok (.aload_n 1, 1) := by decide +kernel
theorem dX8_listen_22 : decode cX8_listen 22 = .ok (.getfield 25, 3) := by decide +kernel
theorem dX8_listen_25 : decode cX8_listen 25 = .ok (.if_icmp .ge 96, 3) := by decide +kernel
theorem dX8_listen_28 : decode cX8_listen 28 = .ok (.aload_n 1, 1) := by decide +kernel
theorem dX8_listen_29 : decode cX8_listen 29 = .ok (.getfield 30, 3) := by decide +kernel
theorem dX8_listen_32 : decode cX8_listen 32 = .ok (.iload_n 3, 1) := by decide +kernel
theorem dX8_listen_33 : decode cX8_listen 33 = .ok (.laload, 1) := by decide +kernel
theorem dX8_listen_34 : decode cX8_listen 34 = .ok (.lstore 4, 2) := by decide +kernel
theorem dX8_listen_36 : decode cX8_listen 36 = .ok (.aload_n 1, 1) := by decide +kernel
theorem dX8_listen_37 : decode cX8_listen 37 = .ok (.getfield 30, 3) := by decide +kernel
theorem dX8_listen_40 : decode cX8_listen 40 = .ok (.iload_n 3, 1) := by decide +kernel
theorem dX8_listen_41 : decode cX8_listen 41 = .ok (.iconst 1, 1) := by decide +kernel
theorem dX8_listen_42 : decode cX8_listen 42 = .ok (.iadd, 1) := by decide +kernel
theorem dX8_listen_43 : decode cX8_listen 43 = .ok (.laload, 1) := by decide +kernel
theorem dX8_listen_44 : decode cX8_listen 44 = .ok (.lstore 6, 2) := by decide +kernel
theorem dX8_listen_46 : decode cX8_listen 46 = .ok (.lload 4, 2) := by decide +kernel
theorem dX8_listen_48 : decode cX8_listen 48 = .ok (.lconst 0, 1) := by decide +kernel
theorem dX8_listen_49 : decode cX8_listen 49 = .ok (.lcmp, 1) := by decide +kernel
theorem dX8_listen_50 : decode cX8_listen 50 = .ok (.ifCond .lt 29, 3) := by decide +kernel
theorem dX8_listen_53 : decode cX8_listen 53 = .ok (.lload 4, 2) := by decide +kernel
theorem dX8_listen_55 : decode cX8_listen 55 = .ok (.iload_n 2, 1) := by decide +kernel
theorem dX8_listen_56 : decode cX8_listen 56 = .ok (.i2l, 1) := by decide +kernel
theorem dX8_listen_57 : decode cX8_listen 57 = .ok (.lcmp, 1) := by decide +kernel
theorem dX8_listen_58 : decode cX8_listen 58 = .ok (.ifCond .ge 21, 3) := by decide +kernel
theorem dX8_listen_61 : decode cX8_listen 61 = .ok (.lload 6, 2) := by decide +kernel
theorem dX8_listen_63 : decode cX8_listen 63 = .ok (.ldc2_w 34, 3) := by decide +kernel
theorem dX8_listen_66 : decode cX8_listen 66 = .ok (.lcmp, 1) := by decide +kernel
theorem dX8_listen_67 : decode cX8_listen 67 = .ok (.ifCond .lt 12, 3) := by decide +kernel
theorem dX8_listen_70 : decode cX8_listen 70 = .ok (.lload 6, 2) := by decide +kernel
theorem dX8_listen_72 : decode cX8_listen 72 = .ok (.ldc2_w 36, 3) := by decide +kernel
theorem dX8_listen_75 : decode cX8_listen 75 = .ok (.lcmp, 1) := by decide +kernel
theorem dX8_listen_76 : decode cX8_listen 76 = .ok (.ifCond .le 5, 3) := by decide +kernel
theorem dX8_listen_79 : decode cX8_listen 79 = .ok (.iconst 0, 1) := by decide +kernel
theorem dX8_listen_80 : decode cX8_listen 80 = .ok (.ireturn, 1) := by decide +kernel
theorem dX8_listen_81 : decode cX8_listen 81 = .ok (.aload_n 0, 1) := by decide +kernel
theorem dX8_listen_82 : decode cX8_listen 82 = .ok (.getfield 9, 3) := by decide +kernel
theorem dX8_listen_85 : decode cX8_listen 85 = .ok (.aload_n 0, 1) := by decide +kernel
theorem dX8_listen_86 : decode cX8_listen 86 = .ok (.getfield 21, 3) := by decide +kernel
theorem dX8_listen_89 : decode cX8_listen 89 = .ok (.lload 4, 2) := by decide +kernel
theorem dX8_listen_91 : decode cX8_listen 91 = .ok (.l2i, 1) := by decide +kernel
theorem dX8_listen_92 : decode cX8_listen 92 = .ok (.iastore, 1) := by decide +kernel
theorem dX8_listen_93 : decode cX8_listen 93 = .ok (.aload_n 0, 1) := by decide +kernel
theorem dX8_listen_94 : decode cX8_listen 94 = .ok (.getfield 15, 3) := by decide +kernel
theorem dX8_listen_97 : decode cX8_listen 97 = .ok (.aload_n 0, 1) := by decide +kernel
theorem dX8_listen_98 : decode cX8_listen 98 = .ok (.getfield 21, 3) := by decide +kernel
theorem dX8_listen_101 : decode cX8_listen 101 = .ok (.lload 6, 2) := by decide +kernel
theorem dX8_listen_103 : decode cX8_listen 103 = .ok (.l2i, 1) := by decide +kernel
theorem dX8_listen_104 : decode cX8_listen 104 = .ok (.iastore, 1) := by decide +kernel
theorem dX8_listen_105 : decode cX8_listen 105 = .ok (.aload_n 0, 1) := by decide +kernel
theorem dX8_listen_106 : decode cX8_listen 106 = .ok (.dup, 1) := by decide +kernel
theorem dX8_listen_107 : decode cX8_listen 107 = .ok (.getfield 21, 3) := by decide +kernel
theorem dX8_listen_110 : decode cX8_listen 110 = .ok (.iconst 1, 1) := by decide +kernel
theorem dX8_listen_111 : decode cX8_listen 111 = .ok (.iadd, 1) := by decide +kernel
theorem dX8_listen_112 : decode cX8_listen 112 = .ok (.putfield 21, 3) := by decide +kernel
theorem dX8_listen_115 : decode cX8_listen 115 = .ok (.iinc 3 2, 3) := by decide +kernel
theorem dX8_listen_118 : decode cX8_listen 118 = .ok (.goto (-100), 3) := by decide +kernel
theorem dX8_listen_121 : decode cX8_listen 121 = .ok (.iconst 1, 1) := by decide +kernel
theorem dX8_listen_122 : decode cX8_listen 122 = .ok (.ireturn, 1) := by decide +kernel
theorem dX8_noteSet_0 : decode cX8_noteSet 0 = .ok (.aload_n 0, 1) := by decide +kernel
