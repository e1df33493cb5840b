theorem dJ0_charAt_5068e_0 : decode cJ0_charAt_5068e 0 = .ok (.aload_n 0, 1) := by decide +kernel
theorem dJ0_charAt_5068e_1 : decode cJ0_charAt_5068e 1 = .ok (.invokevirtual 492, 3) := by decide +kernel
theorem dJ0_charAt_5068e_4 : decode cJ0_charAt_5068e 4 = .ok (.ifCond .eq 12, 3) := by decide +kernel
theorem dJ0_charAt_5068e_7 : decode cJ0_charAt_5068e 7 = .ok (.aload_n 0, 1) := by decide +kernel
theorem dJ0_charAt_5068e_8 : decode cJ0_charAt_5068e 8 = .ok (.getfield 9, 3) := by decide +kernel
theorem dJ0_charAt_5068e_11 : decode cJ0_charAt_5068e 11 = .ok (.iload_n 1, 1) := by decide +kernel
theorem dJ0_charAt_5068e_12 : decode cJ0_charAt_5068e 12 = .ok (.invokestatic 495, 3) := by decide +kernel
theorem dJ0_charAt_5068e_15 : decode cJ0_charAt_5068e 15 = .ok (.ireturn, 1) := by decide +kernel
theorem dJ0_charAt_5068e_16 : decode cJ0_charAt_5068e 16 = .ok (.aload_n 0, 1) := by decide +kernel
theorem dJ0_charAt_5068e_17 : decode cJ0_charAt_5068e 17 = .ok (.getfield 9, 3) := by decide +kernel
theorem dJ0_charAt_5068e_20 : decode cJ0_charAt_5068e 20 = .ok (.iload_n 1, 1) := by decide +kernel
theorem dJ0_charAt_5068e_21 : decode cJ0_charAt_5068e 21 = .ok (.invokestatic 498, 3) := by decide +kernel
theorem dJ0_charAt_5068e_24 : decode cJ0_charAt_5068e 24 = .ok (.ireturn, 1) := by decide +kernel
theorem dJ0_checkIndex_df160_0 : decode cJ0_checkIndex_df160 0 = .ok (.iload_n 0, 1) := by decide +kernel
theorem dJ0_checkIndex_df160_1 : decode cJ0_checkIndex_df160 1 = .ok (.iload_n 1, 1) := by decide +kernel
theorem dJ0_checkIndex_df160_2 : decode cJ0_checkIndex_df160 2 = .ok (.getstatic 1053, 3) := by decide +kernel
theorem dJ0_checkIndex_df160_5 : decode cJ0_checkIndex_df160 5 = .ok (.invokestatic 1059, 3) := by decide +kernel
theorem dJ0_checkIndex_df160_8 : decode cJ0_checkIndex_df160 8 = .ok (.pop, 1) := by decide +kernel
theorem dJ0_checkIndex_df160_9 : decode cJ0_checkIndex_df160 9 = .ok (.return_, 1) := by decide +kernel
theorem dJ0_coder_7d493_0 : decode cJ0_coder_7d493 0 = .ok (.getstatic 38, 3) := by decide +kernel
theorem dJ0_coder_7d493_3 : decode cJ0_coder_7d493 3 = .ok (.ifCond .eq 10, 3) := by decide +kernel
theorem dJ0_coder_7d493_6 : decode cJ0_coder_7d493 6 = .ok (.aload_n 0, 1) := by decide +kernel
theorem dJ0_coder_7d493_7 : decode cJ0_coder_7d493 7 = .ok (.getfield 15, 3) := by decide +kernel
theorem dJ0_coder_7d493_10 : decode cJ0_coder_7d493 10 = .ok (.goto 4, 3) := by decide +kernel
theorem dJ0_coder_7d493_13 : decode cJ0_coder_7d493 13 = .ok (.iconst 1, 1) := by decide +kernel
theorem dJ0_coder_7d493_14 : decode cJ0_coder_7d493 14 = .ok (.ireturn, 1) := by decide +kernel
theorem dJ0_isLatin1_aae02_0 : decode cJ0_isLatin1_aae02 0 = .ok (.getstatic 38, 3) := by decide +kernel
theorem dJ0_isLatin1_aae02_3 : decode cJ0_isLatin1_aae02 3 = .ok (.ifCond .eq 14, 3) := by decide +kernel
theorem dJ0_isLatin1_aae02_6 : decode cJ0_isLatin1_aae02 6 = .ok (.aload_n 0, 1) := by decide +kernel
theorem dJ0_isLatin1_aae02_7 : decode cJ0_isLatin1_aae02 7 = .ok (.getfield 15, 3) := by decide +kernel
theorem dJ0_isLatin1_aae02_10 : decode cJ0_isLatin1_aae02 10 = .ok (.ifCond .ne 7, 3) := by decide +kernel
theorem dJ0_isLatin1_aae02_13 : decode cJ0_isLatin1_aae02 13 = .ok (.iconst 1, 1) := by decide +kernel
theorem dJ0_isLatin1_aae02_14 : decode cJ0_isLatin1_aae02 14 = .ok (.goto 4, 3) := by decide +kernel
theorem dJ0_isLatin1_aae02_17 : decode cJ0_isLatin1_aae02 17 = .ok (.iconst 0, 1) := by decide +kernel
theorem dJ0_isLatin1_aae02_18 : decode cJ0_isLatin1_aae02 18 = .ok (.ireturn, 1) := by decide +kernel
theorem dJ0_length_8abf5_0 : decode cJ0_length_8abf5 0 = .ok (.aload_n 0, 1) := by decide +kernel
theorem dJ0_length_8abf5_1 : decode cJ0_length_8abf5 1 = .ok (.getfield 9, 3) := by decide +kernel
theorem dJ0_length_8abf5_4 : decode cJ0_length_8abf5 4 = .ok (.arraylength, 1) := by decide +kernel
theorem dJ0_length_8abf5_5 : decode cJ0_length_8abf5 5 = .ok (.aload_n 0, 1) := by decide +kernel
theorem dJ0_length_8abf5_6 : decode cJ0_length_8abf5 6 = .ok (.invokevirtual 335, 3) := by decide +kernel
theorem dJ0_length_8abf5_9 : decode cJ0_length_8abf5 9 = .ok (.ishr, 1) := by decide +kernel
theorem dJ0_length_8abf5_10 : decode cJ0_length_8abf5 10 = .ok (.ireturn, 1) := by decide +kernel
theorem dJ13_bitCount_95d88_0 : decode cJ13_bitCount_95d88 0 = .ok (.lload_n 0, 1) := by decide +kernel
theorem dJ13_bitCount_95d88_1 : decode cJ13_bitCount_95d88 1 = .ok (.lload_n 0, 1) := by decide +kernel
theorem dJ13_bitCount_95d88_2 : decode cJ13_bitCount_95d88 2 = .ok (.iconst 1, 1) := by decide +kernel
theorem dJ13_bitCount_95d88_3 : decode cJ13_bitCount_95d88 3 = .ok (.lushr, 1) := by decide +kernel
theorem dJ13_bitCount_95d88_4 : decode cJ13_bitCount_95d88 4 = .ok (.ldc2_w 314, 3) := by decide +kernel
theorem dJ13_bitCount_95d88_7 : decode cJ13_bitCount_95d88 7 = .ok (.land, 1) := by decide +kernel
theorem dJ13_bitCount_95d88_8 : decode cJ13_bitCount_95d88 8 = .ok (.lsub, 1) := by decide +kernel
theorem dJ13_bitCount_95d88_9 : decode cJ13_bitCount_95d88 9 = .ok (.lstore_n 0, 1) := by decide +kernel
theorem dJ13_bitCount_95d88_10 : decode cJ13_bitCount_95d88 10 = .ok (.lload_n 0, 1) := by decide +kernel
theorem dJ13_bitCount_95d88_11 : decode cJ13_bitCount_95d88 11 = .ok (.ldc2_w 316, 3) := by decide +kernel
theorem dJ13_bitCount_95d88_14 : decode cJ13_bitCount_95d88 14 = .ok (.land, 1) := by decide +kernel
theorem dJ13_bitCount_95d88_15 : decode cJ13_bitCount_95d88 15 = .ok (.lload_n 0, 1) := by decide +kernel
theorem dJ13_bitCount_95d88_16 : decode cJ13_bitCount_95d88 16 = .ok (.iconst 2, 1) := by decide +kernel
theorem dJ13_bitCount_95d88_17 : decode cJ13_bitCount_95d88 17 = .ok (.lushr, 1) := by decide +kernel
theorem dJ13_bitCount_95d88_18 : decode cJ13_bitCount_95d88 18 = .ok (.ldc2_w 316, 3) := by decide +kernel
theorem dJ13_bitCount_95d88_21 : decode cJ13_bitCount_95d88 21 = .ok (.land, 1) := by decide +kernel
theorem dJ13_bitCount_95d88_22 : decode cJ13_bitCount_95d88 22 = .ok (.ladd, 1) := by decide +kernel
theorem dJ13_bitCount_95d88_23 : decode cJ13_bitCount_95d88 23 = .ok (.lstore_n 0, 1) := by decide +kernel
theorem dJ13_bitCount_95d88_24 : decode cJ13_bitCount_95d88 24 = .ok (.lload_n 0, 1) := by decide +kernel
theorem dJ13_bitCount_95d88_25 : decode cJ13_bitCount_95d88 25 = .ok (.lload_n 0, 1) := by decide +kernel
theorem dJ13_bitCount_95d88_26 : decode cJ13_bitCount_95d88 26 = .ok (.iconst 4, 1) := by decide +kernel
theorem dJ13_bitCount_95d88_27 : decode cJ13_bitCount_95d88 27 = .ok (.lushr, 1) := by decide +kernel
theorem dJ13_bitCount_95d88_28 : decode cJ13_bitCount_95d88 28 = .ok (.ladd, 1) := by decide +kernel
theorem dJ13_bitCount_95d88_29 : decode cJ13_bitCount_95d88 29 = .ok (.ldc2_w 318, 3) := by decide +kernel
theorem dJ13_bitCount_95d88_32 : decode cJ13_bitCount_95d88 32 = .ok (.land, 1) := by decide +kernel
theorem dJ13_bitCount_95d88_33 : decode cJ13_bitCount_95d88 33 = .ok (.lstore_n 0, 1) := by decide +kernel
theorem dJ13_bitCount_95d88_34 : decode cJ13_bitCount_95d88 34 = .ok (.lload_n 0, 1) := by decide +kernel
theorem dJ13_bitCount_95d88_35 : decode cJ13_bitCount_95d88 35 = .ok (.lload_n 0, 1) := by decide +kernel
theorem dJ13_bitCount_95d88_36 : decode cJ13_bitCount_95d88 36 = .ok (.bipush 8, 2) := by decide +kernel
theorem dJ13_bitCount_95d88_38 : decode cJ13_bitCount_95d88 38 = .ok (.lushr, 1) := by decide +kernel
theorem dJ13_bitCount_95d88_39 : decode cJ13_bitCount_95d88 39 = .ok (.ladd, 1) := by decide +kernel
theorem dJ13_bitCount_95d88_40 : decode cJ13_bitCount_95d88 40 = .ok (.lstore_n 0, 1) := by decide +kernel
theorem dJ13_bitCount_95d88_41 : decode cJ13_bitCount_95d88 41 = .ok (.lload_n 0, 1) := by decide +kernel
theorem dJ13_bitCount_95d88_42 : decode cJ13_bitCount_95d88 42 = .ok (.lload_n 0, 1) := by decide +kernel
theorem dJ13_bitCount_95d88_43 : decode cJ13_bitCount_95d88 43 = .ok (.bipush 16, 2) := by decide +kernel
theorem dJ13_bitCount_95d88_45 : decode cJ13_bitCount_95d88 45 = .ok (.lushr, 1) := by decide +kernel
theorem dJ13_bitCount_95d88_46 : decode cJ13_bitCount_95d88 46 = .ok (.ladd, 1) := by decide +kernel
theorem dJ13_bitCount_95d88_47 : decode cJ13_bitCount_95d88 47 = .ok (.lstore_n 0, 1) := by decide +kernel
theorem dJ13_bitCount_95d88_48 : decode cJ13_bitCount_95d88 48 = .ok (.lload_n 0, 1) := by decide +kernel
theorem dJ13_bitCount_95d88_49 : decode cJ13_bitCount_95d88 49 = .ok (.lload_n 0, 1) := by decide +kernel
theorem dJ13_bitCount_95d88_50 : decode cJ13_bitCount_95d88 50 = .ok (.bipush 32, 2) := by decide +kernel
theorem dJ13_bitCount_95d88_52 : decode cJ13_bitCount_95d88 52 = .ok (.lushr, 1) := by decide +kernel
theorem dJ13_bitCount_95d88_53 : decode cJ13_bitCount_95d88 53 = .ok (.ladd, 1) := by decide +kernel
theorem dJ13_bitCount_95d88_54 : decode cJ13_bitCount_95d88 54 = .ok (.lstore_n 0, 1) := by decide +kernel
theorem dJ13_bitCount_95d88_55 : decode cJ13_bitCount_95d88 55 = .ok (.lload_n 0, 1) := by decide +kernel
theorem dJ13_bitCount_95d88_56 : decode cJ13_bitCount_95d88 56 = .ok (.l2i, 1) := by decide +kernel
theorem dJ13_bitCount_95d88_57 : decode cJ13_bitCount_95d88 57 = .ok (.bipush 127, 2) := by decide +kernel
theorem dJ13_bitCount_95d88_59 : decode cJ13_bitCount_95d88 59 = .ok (.iand, 1) := by decide +kernel
theorem dJ13_bitCount_95d88_60 : decode cJ13_bitCount_95d88 60 = .ok (.ireturn, 1) := by decide +kernel
theorem dJ1_charAt_3b067_0 : decode cJ1_charAt_3b067 0 = .ok (.iload_n 1, 1) := by decide +kernel
theorem dJ1_charAt_3b067_1 : decode cJ1_charAt_3b067 1 = .ok (.aload_n 0, 1) := by decide +kernel
theorem dJ1_charAt_3b067_2 : decode cJ1_charAt_3b067 2 = .ok (.arraylength, 1) := by decide +kernel
theorem dJ1_charAt_3b067_3 : decode cJ1_charAt_3b067 3 = .ok (.invokestatic 9, 3) := by decide +kernel
theorem dJ1_charAt_3b067_6 : decode cJ1_charAt_3b067 6 = .ok (.aload_n 0, 1) := by decide +kernel
theorem dJ1_charAt_3b067_7 : decode cJ1_charAt_3b067 7 = .ok (.iload_n 1, 1) := by decide +kernel
theorem dJ1_charAt_3b067_8 : decode cJ1_charAt_3b067 8 = .ok (.baload, 1) := by decide +kernel
theorem dJ1_charAt_3b067_9 : decode cJ1_charAt_3b067 9 = .ok (.sipush 255, 3) := by decide +kernel
theorem dJ1_charAt_3b067_12 : decode cJ1_charAt_3b067 12 = .ok (.iand, 1) := by decide +kernel
theorem dJ1_charAt_3b067_13 : decode cJ1_charAt_3b067 13 = .ok (.i2c, 1) := by decide +kernel
theorem dJ1_charAt_3b067_14 : decode cJ1_charAt_3b067 14 = .ok (.ireturn, 1) := by decide +kernel
theorem dJ2_charAt_3b067_0 : decode cJ2_charAt_3b067 0 = .ok (.iload_n 1, 1) := by decide +kernel
theorem dJ2_charAt_3b067_1 : decode cJ2_charAt_3b067 1 = .ok (.aload_n 0, 1) := by decide +kernel
theorem dJ2_charAt_3b067_2 : decode cJ2_charAt_3b067 2 = .ok (.invokestatic 67, 3) := by decide +kernel
theorem dJ2_charAt_3b067_5 : decode cJ2_charAt_3b067 5 = .ok (.aload_n 0, 1) := by decide +kernel
theorem dJ2_charAt_3b067_6 : decode cJ2_charAt_3b067 6 = .ok (.iload_n 1, 1) := by decide +kernel
theorem dJ2_charAt_3b067_7 : decode cJ2_charAt_3b067 7 = .ok (.invokestatic 71, 3) := by decide +kernel
theorem dJ2_charAt_3b067_10 : decode cJ2_charAt_3b067 10 = .ok (.ireturn, 1) := by decide +kernel
theorem dJ2_checkIndex_2214a_0 : decode cJ2_checkIndex_2214a 0 = .ok (.iload_n 0, 1) := by decide +kernel
theorem dJ2_checkIndex_2214a_1 : decode cJ2_checkIndex_2214a 1 = .ok (.aload_n 1, 1) := by decide +kernel
theorem dJ2_checkIndex_2214a_2 : decode cJ2_checkIndex_2214a 2 = .ok (.invokestatic 48, 3) := by decide +kernel
theorem dJ2_checkIndex_2214a_5 : decode cJ2_checkIndex_2214a 5 = .ok (.invokestatic 414, 3) := by decide +kernel
theorem dJ2_checkIndex_2214a_8 : decode cJ2_checkIndex_2214a 8 = .ok (.return_, 1) := by decide +kernel
theorem dJ2_getChar_3b067_0 : decode cJ2_getChar_3b067 0 = .ok (.getstatic 44, 3) := by decide +kernel
theorem dJ2_getChar_3b067_3 : decode cJ2_getChar_3b067 3 = .ok (.ifCond .ne 25, 3) := by decide +kernel
theorem dJ2_getChar_3b067_6 : decode cJ2_getChar_3b067 6 = .ok (.iload_n 1, 1) := by decide +kernel
theorem dJ2_getChar_3b067_7 : decode cJ2_getChar_3b067 7 = .ok (.ifCond .lt 11, 3) := by decide +kernel
theorem dJ2_getChar_3b067_10 : decode cJ2_getChar_3b067 10 = .ok (.iload_n 1, 1) := by decide +kernel
theorem dJ2_getChar_3b067_11 : decode cJ2_getChar_3b067 11 = .ok (.aload_n 0, 1) := by decide +kernel
theorem dJ2_getChar_3b067_12 : decode cJ2_getChar_3b067 12 = .ok (.invokestatic 48, 3) := by decide +kernel
theorem dJ2_getChar_3b067_15 : decode cJ2_getChar_3b067 15 = .ok (.if_icmp .lt 13, 3) := by decide +kernel
theorem dJ2_getChar_3b067_18 : decode cJ2_getChar_3b067 18 = .ok (.new 52, 3) := by decide +kernel
theorem dJ2_getChar_3b067_21 : decode cJ2_getChar_3b067 21 = .ok (.dup, 1) := by decide +kernel
theorem dJ2_getChar_3b067_22 : decode cJ2_getChar_3b067 22 = .ok (.ldc 54, 2) := by decide +kernel
theorem dJ2_getChar_3b067_24 : decode cJ2_getChar_3b067 24 = .ok (.invokespecial 56, 3) := by decide +kernel
theorem dJ2_getChar_3b067_27 : decode cJ2_getChar_3b067 27 = .ok (.athrow, 1) := by decide +kernel
theorem dJ2_getChar_3b067_28 : decode cJ2_getChar_3b067 28 = .ok (.iload_n 1, 1) := by decide +kernel
theorem dJ2_getChar_3b067_29 : decode cJ2_getChar_3b067 29 = .ok (.iconst 1, 1) := by decide +kernel
theorem dJ2_getChar_3b067_30 : decode cJ2_getChar_3b067 30 = .ok (.ishl, 1) := by decide +kernel
theorem dJ2_getChar_3b067_31 : decode cJ2_getChar_3b067 31 = .ok (.istore_n 1, 1) := by decide +kernel
theorem dJ2_getChar_3b067_32 : decode cJ2_getChar_3b067 32 = .ok (.aload_n 0, 1) := by decide +kernel
theorem dJ2_getChar_3b067_33 : decode cJ2_getChar_3b067 33 = .ok (.iload_n 1, 1) := by decide +kernel
theorem dJ2_getChar_3b067_34 : decode cJ2_getChar_3b067 34 = .ok (.iinc 1 1, 3) := by decide +kernel
theorem dJ2_getChar_3b067_37 : decode cJ2_getChar_3b067 37 = .ok (.baload, 1) := by decide +kernel
theorem dJ2_getChar_3b067_38 : decode cJ2_getChar_3b067 38 = .ok (.sipush 255, 3) := by decide +kernel
theorem dJ2_getChar_3b067_41 : decode cJ2_getChar_3b067 41 = .ok (.iand, 1) := by decide +kernel
theorem dJ2_getChar_3b067_42 : decode cJ2_getChar_3b067 42 = .ok (.getstatic 59, 3) := by decide +kernel
theorem dJ2_getChar_3b067_45 : decode cJ2_getChar_3b067 45 = .ok (.ishl, 1) := by decide +kernel
theorem dJ2_getChar_3b067_46 : decode cJ2_getChar_3b067 46 = .ok (.aload_n 0, 1) := by decide +kernel
theorem dJ2_getChar_3b067_47 : decode cJ2_getChar_3b067 47 = .ok (.iload_n 1, 1) := by decide +kernel
theorem dJ2_getChar_3b067_48 : decode cJ2_getChar_3b067 48 = .ok (.baload, 1) := by decide +kernel
theorem dJ2_getChar_3b067_49 : decode cJ2_getChar_3b067 49 = .ok (.sipush 255, 3) := by decide +kernel
theorem dJ2_getChar_3b067_52 : decode cJ2_getChar_3b067 52 = .ok (.iand, 1) := by decide +kernel
theorem dJ2_getChar_3b067_53 : decode cJ2_getChar_3b067 53 = .ok (.getstatic 63, 3) := by decide +kernel
theorem dJ2_getChar_3b067_56 : decode cJ2_getChar_3b067 56 = .ok (.ishl, 1) := by decide +kernel
theorem dJ2_getChar_3b067_57 : decode cJ2_getChar_3b067 57 = .ok (.ior, 1) := by decide +kernel
theorem dJ2_getChar_3b067_58 : decode cJ2_getChar_3b067 58 = .ok (.i2c, 1) := by decide +kernel
theorem dJ2_getChar_3b067_59 : decode cJ2_getChar_3b067 59 = .ok (.ireturn, 1) := by decide +kernel
theorem dJ2_length_9d52b_0 : decode cJ2_length_9d52b 0 = .ok (.aload_n 0, 1) := by decide +kernel
theorem dJ2_length_9d52b_1 : decode cJ2_length_9d52b 1 = .ok (.arraylength, 1) := by decide +kernel
theorem dJ2_length_9d52b_2 : decode cJ2_length_9d52b 2 = .ok (.iconst 1, 1) := by decide +kernel
theorem dJ2_length_9d52b_3 : decode cJ2_length_9d52b 3 = .ok (.ishr, 1) := by decide +kernel
theorem dJ2_length_9d52b_4 : decode cJ2_length_9d52b 4 = .ok (.ireturn, 1) := by decide +kernel
theorem dJ3_checkIndex_8e157_0 : decode cJ3_checkIndex_8e157 0 = .ok (.iload_n 0, 1) := by decide +kernel
theorem dJ3_checkIndex_8e157_1 : decode cJ3_checkIndex_8e157 1 = .ok (.ifCond .lt 8, 3) := by decide +kernel
theorem dJ3_checkIndex_8e157_4 : decode cJ3_checkIndex_8e157 4 = .ok (.iload_n 0, 1) := by decide +kernel
theorem dJ3_checkIndex_8e157_5 : decode cJ3_checkIndex_8e157 5 = .ok (.iload_n 1, 1) := by decide +kernel
theorem dJ3_checkIndex_8e157_6 : decode cJ3_checkIndex_8e157 6 = .ok (.if_icmp .lt 10, 3) := by decide +kernel
theorem dJ3_checkIndex_8e157_9 : decode cJ3_checkIndex_8e157 9 = .ok (.aload_n 2, 1) := by decide +kernel
theorem dJ3_checkIndex_8e157_10 : decode cJ3_checkIndex_8e157 10 = .ok (.iload_n 0, 1) := by decide +kernel
theorem dJ3_checkIndex_8e157_11 : decode cJ3_checkIndex_8e157 11 = .ok (.iload_n 1, 1) := by decide +kernel
theorem dJ3_checkIndex_8e157_12 : decode cJ3_checkIndex_8e157 12 = .ok (.invokestatic 95, 3) := by decide +kernel
theorem dJ3_checkIndex_8e157_15 : decode cJ3_checkIndex_8e157 15 = .ok (.athrow, 1) := by decide +kernel
theorem dJ3_checkIndex_8e157_16 : decode cJ3_checkIndex_8e157 16 = .ok (.iload_n 0, 1) := by decide +kernel
theorem dJ3_checkIndex_8e157_17 : decode cJ3_checkIndex_8e157 17 = .ok (.ireturn, 1) := by decide +kernel
theorem dJ6_bitCount_0f7a4_0 : decode cJ6_bitCount_0f7a4 0 = .ok (.iload_n 0, 1) := by decide +kernel
theorem dJ6_bitCount_0f7a4_1 : decode cJ6_bitCount_0f7a4 1 = .ok (.iload_n 0, 1) := by decide +kernel
theorem dJ6_bitCount_0f7a4_2 : decode cJ6_bitCount_0f7a4 2 = .ok (.iconst 1, 1) := by decide +kernel
theorem dJ6_bitCount_0f7a4_3 : decode cJ6_bitCount_0f7a4 3 = .ok (.iushr, 1) := by decide +kernel
theorem dJ6_bitCount_0f7a4_4 : decode cJ6_bitCount_0f7a4 4 = .ok (.ldc_w 265, 3) := by decide +kernel
theorem dJ6_bitCount_0f7a4_7 : decode cJ6_bitCount_0f7a4 7 = .ok (.iand, 1) := by decide +kernel
theorem dJ6_bitCount_0f7a4_8 : decode cJ6_bitCount_0f7a4 8 = .ok (.isub, 1) := by decide +kernel
theorem dJ6_bitCount_0f7a4_9 : decode cJ6_bitCount_0f7a4 9 = .ok (.istore_n 0, 1) := by decide +kernel
theorem dJ6_bitCount_0f7a4_10 : decode cJ6_bitCount_0f7a4 10 = .ok (.iload_n 0, 1) := by decide +kernel
theorem dJ6_bitCount_0f7a4_11 : decode cJ6_bitCount_0f7a4 11 = .ok (.ldc_w 266, 3) := by decide +kernel
theorem dJ6_bitCount_0f7a4_14 : decode cJ6_bitCount_0f7a4 14 = .ok (.iand, 1) := by decide +kernel
theorem dJ6_bitCount_0f7a4_15 : decode cJ6_bitCount_0f7a4 15 = .ok (.iload_n 0, 1) := by decide +kernel
theorem dJ6_bitCount_0f7a4_16 : decode cJ6_bitCount_0f7a4 16 = .ok (.iconst 2, 1) := by decide +kernel
theorem dJ6_bitCount_0f7a4_17 : decode cJ6_bitCount_0f7a4 17 = .ok (.iushr, 1) := by decide +kernel
theorem dJ6_bitCount_0f7a4_18 : decode cJ6_bitCount_0f7a4 18 = .ok (.ldc_w 266, 3) := by decide +kernel
theorem dJ6_bitCount_0f7a4_21 : decode cJ6_bitCount_0f7a4 21 = .ok (.iand, 1) := by decide +kernel
theorem dJ6_bitCount_0f7a4_22 : decode cJ6_bitCount_0f7a4 22 = .ok (.iadd, 1) := by decide +kernel
theorem dJ6_bitCount_0f7a4_23 : decode cJ6_bitCount_0f7a4 23 = .ok (.istore_n 0, 1) := by decide +kernel
theorem dJ6_bitCount_0f7a4_24 : decode cJ6_bitCount_0f7a4 24 = .ok (.iload_n 0, 1) := by decide +kernel
theorem dJ6_bitCount_0f7a4_25 : decode cJ6_bitCount_0f7a4 25 = .ok (.iload_n 0, 1) := by decide +kernel
theorem dJ6_bitCount_0f7a4_26 : decode cJ6_bitCount_0f7a4 26 = .ok (.iconst 4, 1) := by decide +kernel
theorem dJ6_bitCount_0f7a4_27 : decode cJ6_bitCount_0f7a4 27 = .ok (.iushr, 1) := by decide +kernel
theorem dJ6_bitCount_0f7a4_28 : decode cJ6_bitCount_0f7a4 28 = .ok (.iadd, 1) := by decide +kernel
theorem dJ6_bitCount_0f7a4_29 : decode cJ6_bitCount_0f7a4 29 = .ok (.ldc_w 267, 3) := by decide +kernel
theorem dJ6_bitCount_0f7a4_32 : decode cJ6_bitCount_0f7a4 32 = .ok (.iand, 1) := by decide +kernel
theorem dJ6_bitCount_0f7a4_33 : decode cJ6_bitCount_0f7a4 33 = .ok (.istore_n 0, 1) := by decide +kernel
theorem dJ6_bitCount_0f7a4_34 : decode cJ6_bitCount_0f7a4 34 = .ok (.iload_n 0, 1) := by decide +kernel
theorem dJ6_bitCount_0f7a4_35 : decode cJ6_bitCount_0f7a4 35 = .ok (.iload_n 0, 1) := by decide +kernel
theorem dJ6_bitCount_0f7a4_36 : decode cJ6_bitCount_0f7a4 36 = .ok (.bipush 8, 2) := by decide +kernel
theorem dJ6_bitCount_0f7a4_38 : decode cJ6_bitCount_0f7a4 38 = .ok (.iushr, 1) := by decide +kernel
theorem dJ6_bitCount_0f7a4_39 : decode cJ6_bitCount_0f7a4 39 = .ok (.iadd, 1) := by decide +kernel
theorem dJ6_bitCount_0f7a4_40 : decode cJ6_bitCount_0f7a4 40 = .ok (.istore_n 0, 1) := by decide +kernel
theorem dJ6_bitCount_0f7a4_41 : decode cJ6_bitCount_0f7a4 41 = .ok (.iload_n 0, 1) := by decide +kernel
theorem dJ6_bitCount_0f7a4_42 : decode cJ6_bitCount_0f7a4 42 = .ok (.iload_n 0, 1) := by decide +kernel
theorem dJ6_bitCount_0f7a4_43 : decode cJ6_bitCount_0f7a4 43 = .ok (.bipush 16, 2) := by decide +kernel
theorem dJ6_bitCount_0f7a4_45 : decode cJ6_bitCount_0f7a4 45 = .ok (.iushr, 1) := by decide +kernel
theorem dJ6_bitCount_0f7a4_46 : decode cJ6_bitCount_0f7a4 46 = .ok (.iadd, 1) := by decide +kernel
theorem dJ6_bitCount_0f7a4_47 : decode cJ6_bitCount_0f7a4 47 = .ok (.istore_n 0, 1) := by decide +kernel
theorem dJ6_bitCount_0f7a4_48 : decode cJ6_bitCount_0f7a4 48 = .ok (.iload_n 0, 1) := by decide +kernel
theorem dJ6_bitCount_0f7a4_49 : decode cJ6_bitCount_0f7a4 49 = .ok (.bipush 63, 2) := by decide +kernel
theorem dJ6_bitCount_0f7a4_51 : decode cJ6_bitCount_0f7a4 51 = .ok (.iand, 1) := by decide +kernel
theorem dJ6_bitCount_0f7a4_52 : decode cJ6_bitCount_0f7a4 52 = .ok (.ireturn, 1) := by decide +kernel
theorem dJ9_max_7cf53_0 : decode cJ9_max_7cf53 0 = .ok (.iload_n 0, 1) := by decide +kernel
theorem dJ9_max_7cf53_1 : decode cJ9_max_7cf53 1 = .ok (.iload_n 1, 1) := by decide +kernel
theorem dJ9_max_7cf53_2 : decode cJ9_max_7cf53 2 = .ok (.if_icmp .lt 7, 3) := by decide +kernel
theorem dJ9_max_7cf53_5 : decode cJ9_max_7cf53 5 = .ok (.iload_n 0, 1) := by decide +kernel
theorem dJ9_max_7cf53_6 : decode cJ9_max_7cf53 6 = .ok (.goto 4, 3) := by decide +kernel
theorem dJ9_max_7cf53_9 : decode cJ9_max_7cf53 9 = .ok (.iload_n 1, 1) := by decide +kernel
theorem dJ9_max_7cf53_10 : decode cJ9_max_7cf53 10 = .ok (.ireturn, 1) := by decide +kernel
theorem dJ9_min_7cf53_0 : decode cJ9_min_7cf53 0 = .ok (.iload_n 0, 1) := by decide +kernel
theorem dJ9_min_7cf53_1 : decode cJ9_min_7cf53 1 = .ok (.iload_n 1, 1) := by decide +kernel
theorem dJ9_min_7cf53_2 : decode cJ9_min_7cf53 2 = .ok (.if_icmp .gt 7, 3) := by decide +kernel
theorem dJ9_min_7cf53_5 : decode cJ9_min_7cf53 5 = .ok (.iload_n 0, 1) := by decide +kernel
theorem dJ9_min_7cf53_6 : decode cJ9_min_7cf53 6 = .ok (.goto 4, 3) := by decide +kernel
theorem dJ9_min_7cf53_9 : decode cJ9_min_7cf53 9 = .ok (.iload_n 1, 1) := by decide +kernel
theorem dJ9_min_7cf53_10 : decode cJ9_min_7cf53 10 = .ok (.ireturn, 1) := by decide +kernel
theorem dL_law_0 : decode cL_law 0 = .ok (.new 8, 3) := by decide +kernel
theorem dL_law_3 : decode cL_law 3 = .ok (.dup, 1) := by decide +kernel
theorem dL_law_4 : decode cL_law 4 = .ok (.invokespecial 15, 3) := by decide +kernel
theorem dL_law_7 : decode cL_law 7 = .ok (.astore_n 1, 1) := by decide +kernel
theorem dL_law_8 : decode cL_law 8 = .ok (.new 16, 3) := by decide +kernel
theorem dL_law_11 : decode cL_law 11 = .ok (.dup, 1) := by decide +kernel
theorem dL_law_12 : decode cL_law 12 = .ok (.invokespecial 18, 3) := by decide +kernel
theorem dL_law_15 : decode cL_law 15 = .ok (.astore_n 2, 1) := by decide +kernel
theorem dL_law_16 : decode cL_law 16 = .ok (.iconst 1, 1) := by decide +kernel
theorem dL_law_17 : decode cL_law 17 = .ok (.newarray .long, 2) := by decide +kernel
theorem dL_law_19 : decode cL_law 19 = .ok (.astore_n 3, 1) := by decide +kernel
theorem dL_law_20 : decode cL_law 20 = .ok (.iconst 0, 1) := by decide +kernel
theorem dL_law_21 : decode cL_law 21 = .ok (.istore 4, 2) := by decide +kernel
theorem dL_law_23 : decode cL_law 23 = .ok (.iload 4, 2) := by decide +kernel
theorem dL_law_25 : decode cL_law 25 = .ok (.aload_n 0, 1) := by decide +kernel
theorem dL_law_26 : decode cL_law 26 = .ok (.arraylength, 1) := by decide +kernel
theorem dL_law_27 : decode cL_law 27 = .ok (.bipush 6, 2) := by decide +kernel
theorem dL_law_29 : decode cL_law 29 = .ok (.isub, 1) := by decide +kernel
theorem dL_law_30 : decode cL_law 30 = .ok (.if_icmp .gt 1309, 3) := by decide +kernel
theorem dL_law_33 : decode cL_law 33 = .ok (.aload_n 0, 1) := by decide +kernel
theorem dL_law_34 : decode cL_law 34 = .ok (.iload 4, 2) := by decide +kernel
theorem dL_law_36 : decode cL_law 36 = .ok (.iaload, 1) := by decide +kernel
theorem dL_law_37 : decode cL_law 37 = .ok (.bipush 63, 2) := by decide +kernel
theorem dL_law_39 : decode cL_law 39 = .ok (.iand, 1) := by decide +kernel
theorem dL_law_40 : decode cL_law 40 = .ok (.tableswitch 1293 0 37 #[168, 241, 266, 291, 348, 361, 386, 426, 439, 452, 525, 550, 575, 636, 673, 722, 735, 760, 785, 798, 835, 848, 861, 886, 911, 936, 949, 986, 1023, 1036, 1061, 1142, 1179, 1192, 1205, 1218, 1243, 1268], 168) := by decide +kernel
theorem dL_law_208 : decode cL_law 208 = .ok (.aload_n 1, 1) := by decide +kernel
theorem dL_law_209 : decode cL_law 209 = .ok (.aload_n 0, 1) := by decide +kernel
theorem dL_law_210 : decode cL_law 210 = .ok (.iload 4, 2) := by decide +kernel
theorem dL_law_212 : decode cL_law 212 = .ok (.iconst 1, 1) := by decide +kernel
theorem dL_law_213 : decode cL_law 213 = .ok (.iadd, 1) := by decide +kernel
theorem dL_law_214 : decode cL_law 214 = .ok (.iaload, 1) := by decide +kernel
theorem dL_law_215 : decode cL_law 215 = .ok (.aload_n 0, 1) := by decide +kernel
theorem dL_law_216 : decode cL_law 216 = .ok (.iload 4, 2) := by decide +kernel
theorem dL_law_218 : decode cL_law 218 = .ok (.iconst 2, 1) := by decide +kernel
theorem dL_law_219 : decode cL_law 219 = .ok (.iadd, 1) := by decide +kernel
theorem dL_law_220 : decode cL_law 220 = .ok (.iaload, 1) := by decide +kernel
theorem dL_law_221 : decode cL_law 221 = .ok (.aload_n 0, 1) := by decide +kernel
theorem dL_law_222 : decode cL_law 222 = .ok (.iload 4, 2) := by decide +kernel
theorem dL_law_224 : decode cL_law 224 = .ok (.iconst 3, 1) := by decide +kernel
theorem dL_law_225 : decode cL_law 225 = .ok (.iadd, 1) := by decide +kernel
theorem dL_law_226 : decode cL_law 226 = .ok (.iaload, 1) := by decide +kernel
theorem dL_law_227 : decode cL_law 227 = .ok (.aload_n 0, 1) := by decide +kernel
theorem dL_law_228 : decode cL_law 228 = .ok (.iload 4, 2) := by decide +kernel
theorem dL_law_230 : decode cL_law 230 = .ok (.iconst 4, 1) := by decide +kernel
theorem dL_law_231 : decode cL_law 231 = .ok (.iadd, 1) := by decide +kernel
theorem dL_law_232 : decode cL_law 232 = .ok (.iaload, 1) := by decide +kernel
theorem dL_law_233 : decode cL_law 233 = .ok (.aload_n 0, 1) := by decide +kernel
theorem dL_law_234 : decode cL_law 234 = .ok (.iload 4, 2) := by decide +kernel
theorem dL_law_236 : decode cL_law 236 = .ok (.iconst 5, 1) := by decide +kernel
theorem dL_law_237 : decode cL_law 237 = .ok (.iadd, 1) := by decide +kernel
theorem dL_law_238 : decode cL_law 238 = .ok (.iaload, 1) := by decide +kernel
theorem dL_law_239 : decode cL_law 239 = .ok (.invokevirtual 19, 3) := by decide +kernel
theorem dL_law_242 : decode cL_law 242 = .ok (.pop, 1) := by decide +kernel
theorem dL_law_243 : decode cL_law 243 = .ok (.aload_n 2, 1) := by decide +kernel
theorem dL_law_244 : decode cL_law 244 = .ok (.aload_n 0, 1) := by decide +kernel
theorem dL_law_245 : decode cL_law 245 = .ok (.iload 4, 2) := by decide +kernel
theorem dL_law_247 : decode cL_law 247 = .ok (.iconst 1, 1) := by decide +kernel
theorem dL_law_248 : decode cL_law 248 = .ok (.iadd, 1) := by decide +kernel
theorem dL_law_249 : decode cL_law 249 = .ok (.iaload, 1) := by decide +kernel
theorem dL_law_250 : decode cL_law 250 = .ok (.aload_n 0, 1) := by decide +kernel
theorem dL_law_251 : decode cL_law 251 = .ok (.iload 4, 2) := by decide +kernel
theorem dL_law_253 : decode cL_law 253 = .ok (.iconst 2, 1) := by decide +kernel
theorem dL_law_254 : decode cL_law 254 = .ok (.iadd, 1) := by decide +kernel
theorem dL_law_255 : decode cL_law 255 = .ok (.iaload, 1) := by decide +kernel
theorem dL_law_256 : decode cL_law 256 = .ok (.aload_n 0, 1) := by decide +kernel
theorem dL_law_257 : decode cL_law 257 = .ok (.iload 4, 2) := by decide +kernel
theorem dL_law_259 : decode cL_law 259 = .ok (.iconst 3, 1) := by decide +kernel
theorem dL_law_260 : decode cL_law 260 = .ok (.iadd, 1) := by decide +kernel
theorem dL_law_261 : decode cL_law 261 = .ok (.iaload, 1) := by decide +kernel
theorem dL_law_262 : decode cL_law 262 = .ok (.aload_n 0, 1) := by decide +kernel
theorem dL_law_263 : decode cL_law 263 = .ok (.iload 4, 2) := by decide +kernel
theorem dL_law_265 : decode cL_law 265 = .ok (.iconst 4, 1) := by decide +kernel
theorem dL_law_266 : decode cL_law 266 = .ok (.iadd, 1) := by decide +kernel
theorem dL_law_267 : decode cL_law 267 = .ok (.iaload, 1) := by decide +kernel
theorem dL_law_268 : decode cL_law 268 = .ok (.aload_n 0, 1) := by decide +kernel
theorem dL_law_269 : decode cL_law 269 = .ok (.iload 4, 2) := by decide +kernel
theorem dL_law_271 : decode cL_law 271 = .ok (.iconst 5, 1) := by decide +kernel
theorem dL_law_272 : decode cL_law 272 = .ok (.iadd, 1) := by decide +kernel
theorem dL_law_273 : decode cL_law 273 = .ok (.iaload, 1) := by decide +kernel
theorem dL_law_274 : decode cL_law 274 = .ok (.invokevirtual 23, 3) := by decide +kernel
theorem dL_law_277 : decode cL_law 277 = .ok (.pop, 1) := by decide +kernel
theorem dL_law_278 : decode cL_law 278 = .ok (.goto 1055, 3) := by decide +kernel
theorem dL_law_281 : decode cL_law 281 = .ok (.aload_n 1, 1) := by decide +kernel
theorem dL_law_282 : decode cL_law 282 = .ok (.aload_n 0, 1) := by decide +kernel
theorem dL_law_283 : decode cL_law 283 = .ok (.iload 4, 2) := by decide +kernel
theorem dL_law_285 : decode cL_law 285 = .ok (.iconst 1, 1) := by decide +kernel
theorem dL_law_286 : decode cL_law 286 = .ok (.iadd, 1) := by decide +kernel
theorem dL_law_287 : decode cL_law 287 = .ok (.iaload, 1) := by decide +kernel
theorem dL_law_288 : decode cL_law 288 = .ok (.invokevirtual 24, 3) := by decide +kernel
theorem dL_law_291 : decode cL_law 291 = .ok (.pop, 1) := by decide +kernel
theorem dL_law_292 : decode cL_law 292 = .ok (.aload_n 2, 1) := by decide +kernel
theorem dL_law_293 : decode cL_law 293 = .ok (.aload_n 0, 1) := by decide +kernel
theorem dL_law_294 : decode cL_law 294 = .ok (.iload 4, 2) := by decide +kernel
theorem dL_law_296 : decode cL_law 296 = .ok (.iconst 1, 1) := by decide +kernel
theorem dL_law_297 : decode cL_law 297 = .ok (.iadd, 1) := by decide +kernel
theorem dL_law_298 : decode cL_law 298 = .ok (.iaload, 1) := by decide +kernel
theorem dL_law_299 : decode cL_law 299 = .ok (.invokevirtual 28, 3) := by decide +kernel
theorem dL_law_302 : decode cL_law 302 = .ok (.pop, 1) := by decide +kernel
theorem dL_law_303 : decode cL_law 303 = .ok (.goto 1030, 3) := by decide +kernel
theorem dL_law_306 : decode cL_law 306 = .ok (.aload_n 1, 1) := by decide +kernel
theorem dL_law_307 : decode cL_law 307 = .ok (.aload_n 0, 1) := by decide +kernel
theorem dL_law_308 : decode cL_law 308 = .ok (.iload 4, 2) := by decide +kernel
theorem dL_law_310 : decode cL_law 310 = .ok (.iconst 1, 1) := by decide +kernel
theorem dL_law_311 : decode cL_law 311 = .ok (.iadd, 1) := by decide +kernel
theorem dL_law_312 : decode cL_law 312 = .ok (.iaload, 1) := by decide +kernel
theorem dL_law_313 : decode cL_law 313 = .ok (.invokevirtual 29, 3) := by decide +kernel
theorem dL_law_316 : decode cL_law 316 = .ok (.pop, 1) := by decide +kernel
theorem dL_law_317 : decode cL_law 317 = .ok (.aload_n 2, 1) := by decide +kernel
theorem dL_law_318 : decode cL_law 318 = .ok (.aload_n 0, 1) := by decide +kernel
theorem dL_law_319 : decode cL_law 319 = .ok (.iload 4, 2) := by decide +kernel
theorem dL_law_321 : decode cL_law 321 = .ok (.iconst 1, 1) := by decide +kernel
theorem dL_law_322 : decode cL_law 322 = .ok (.iadd, 1) := by decide +kernel
theorem dL_law_323 : decode cL_law 323 = .ok (.iaload, 1) := by decide +kernel
theorem dL_law_324 : decode cL_law 324 = .ok (.invokevirtual 33, 3) := by decide +kernel
theorem dL_law_327 : decode cL_law 327 = .ok (.pop, 1) := by decide +kernel
theorem dL_law_328 : decode cL_law 328 = .ok (.goto 1005, 3) := by decide +kernel
theorem dL_law_331 : decode cL_law 331 = .ok (.aload_n 1, 1) := by decide +kernel
theorem dL_law_332 : decode cL_law 332 = .ok (.aload_n 0, 1) := by decide +kernel
theorem dL_law_333 : decode cL_law 333 = .ok (.iload 4, 2) := by decide +kernel
theorem dL_law_335 : decode cL_law 335 = .ok (.iconst 1, 1) := by decide +kernel
theorem dL_law_336 : decode cL_law 336 = .ok (.iadd, 1) := by decide +kernel
theorem dL_law_337 : decode cL_law 337 = .ok (.iaload, 1) := by decide +kernel
theorem dL_law_338 : decode cL_law 338 = .ok (.i2l, 1) := by decide +kernel
theorem dL_law_339 : decode cL_law 339 = .ok (.bipush 32, 2) := by decide +kernel
theorem dL_law_341 : decode cL_law 341 = .ok (.lshl, 1) := by decide +kernel
theorem dL_law_342 : decode cL_law 342 = .ok (.aload_n 0, 1) := by decide +kernel
theorem dL_law_343 : decode cL_law 343 = .ok (.iload 4, 2) := by decide +kernel
theorem dL_law_345 : decode cL_law 345 = .ok (.iconst 2, 1) := by decide +kernel
theorem dL_law_346 : decode cL_law 346 = .ok (.iadd, 1) := by decide +kernel
theorem dL_law_347 : decode cL_law 347 = .ok (.iaload, 1) := by decide +kernel
theorem dL_law_348 : decode cL_law 348 = .ok (.i2l, 1) := by decide +kernel
theorem dL_law_349 : decode cL_law 349 = .ok (.ldc2_w 34, 3) := by decide +kernel
theorem dL_law_352 : decode cL_law 352 = .ok (.land, 1) := by decide +kernel
theorem dL_law_353 : decode cL_law 353 = .ok (.lor, 1) := by decide +kernel
theorem dL_law_354 : decode cL_law 354 = .ok (.invokevirtual 36, 3) := by decide +kernel
theorem dL_law_357 : decode cL_law 357 = .ok (.pop, 1) := by decide +kernel
theorem dL_law_358 : decode cL_law 358 = .ok (.aload_n 2, 1) := by decide +kernel
theorem dL_law_359 : decode cL_law 359 = .ok (.aload_n 0, 1) := by decide +kernel
theorem dL_law_360 : decode cL_law 360 = .ok (.iload 4, 2) := by decide +kernel
theorem dL_law_362 : decode cL_law 362 = .ok (.iconst 1, 1) := by decide +kernel
theorem dL_law_363 : decode cL_law 363 = .ok (.iadd, 1) := by decide +kernel
theorem dL_law_364 : decode cL_law 364 = .ok (.iaload, 1) := by decide +kernel
theorem dL_law_365 : decode cL_law 365 = .ok (.i2l, 1) := by decide +kernel
theorem dL_law_366 : decode cL_law 366 = .ok (.bipush 32, 2) := by decide +kernel
theorem dL_law_368 : decode cL_law 368 = .ok (.lshl, 1) := by decide +kernel
theorem dL_law_369 : decode cL_law 369 = .ok (.aload_n 0, 1) := by decide +kernel
theorem dL_law_370 : decode cL_law 370 = .ok (.iload 4, 2) := by decide +kernel
theorem dL_law_372 : decode cL_law 372 = .ok (.iconst 2, 1) := by decide +kernel
theorem dL_law_373 : decode cL_law 373 = .ok (.iadd, 1) := by decide +kernel
theorem dL_law_374 : decode cL_law 374 = .ok (.iaload, 1) := by decide +kernel
theorem dL_law_375 : decode cL_law 375 = .ok (.i2l, 1) := by decide +kernel
theorem dL_law_376 : decode cL_law 376 = .ok (.ldc2_w 34, 3) := by decide +kernel
theorem dL_law_379 : decode cL_law 379 = .ok (.land, 1) := by decide +kernel
theorem dL_law_380 : decode cL_law 380 = .ok (.lor, 1) := by decide +kernel
theorem dL_law_381 : decode cL_law 381 = .ok (.invokevirtual 40, 3) := by decide +kernel
theorem dL_law_384 : decode cL_law 384 = .ok (.pop, 1) := by decide +kernel
theorem dL_law_385 : decode cL_law 385 = .ok (.goto 948, 3) := by decide +kernel
theorem dL_law_388 : decode cL_law 388 = .ok (.aload_n 1, 1) := by decide +kernel
theorem dL_law_389 : decode cL_law 389 = .ok (.invokevirtual 41, 3) := by decide +kernel
theorem dL_law_392 : decode cL_law 392 = .ok (.pop, 1) := by decide +kernel
theorem dL_law_393 : decode cL_law 393 = .ok (.aload_n 2, 1) := by decide +kernel
theorem dL_law_394 : decode cL_law 394 = .ok (.invokevirtual 45, 3) := by decide +kernel
theorem dL_law_397 : decode cL_law 397 = .ok (.pop, 1) := by decide +kernel
theorem dL_law_398 : decode cL_law 398 = .ok (.goto 935, 3) := by decide +kernel
theorem dL_law_401 : decode cL_law 401 = .ok (.aload_n 1, 1) := by decide +kernel
theorem dL_law_402 : decode cL_law 402 = .ok (.aload_n 0, 1) := by decide +kernel
theorem dL_law_403 : decode cL_law 403 = .ok (.iload 4, 2) := by decide +kernel
theorem dL_law_405 : decode cL_law 405 = .ok (.iconst 1, 1) := by decide +kernel
theorem dL_law_406 : decode cL_law 406 = .ok (.iadd, 1) := by decide +kernel
theorem dL_law_407 : decode cL_law 407 = .ok (.iaload, 1) := by decide +kernel
theorem dL_law_408 : decode cL_law 408 = .ok (.invokevirtual 46, 3) := by decide +kernel
theorem dL_law_411 : decode cL_law 411 = .ok (.pop, 1) := by decide +kernel
theorem dL_law_412 : decode cL_law 412 = .ok (.aload_n 2, 1) := by decide +kernel
theorem dL_law_413 : decode cL_law 413 = .ok (.aload_n 0, 1) := by decide +kernel
theorem dL_law_414 : decode cL_law 414 = .ok (.iload 4, 2) := by decide +kernel
theorem dL_law_416 : decode cL_law 416 = .ok (.iconst 1, 1) := by decide +kernel
theorem dL_law_417 : decode cL_law 417 = .ok (.iadd, 1) := by decide +kernel
theorem dL_law_418 : decode cL_law 418 = .ok (.iaload, 1) := by decide +kernel
theorem dL_law_419 : decode cL_law 419 = .ok (.invokevirtual 49, 3) := by decide +kernel
theorem dL_law_422 : decode cL_law 422 = .ok (.pop, 1) := by decide +kernel
theorem dL_law_423 : decode cL_law 423 = .ok (.goto 910, 3) := by decide +kernel
theorem dL_law_426 : decode cL_law 426 = .ok (.aload_n 1, 1) := by decide +kernel
theorem dL_law_427 : decode cL_law 427 = .ok (.aload_n 0, 1) := by decide +kernel
theorem dL_law_428 : decode cL_law 428 = .ok (.iload 4, 2) := by decide +kernel
theorem dL_law_430 : decode cL_law 430 = .ok (.iconst 1, 1) := by decide +kernel
theorem dL_law_431 : decode cL_law 431 = .ok (.iadd, 1) := by decide +kernel
theorem dL_law_432 : decode cL_law 432 = .ok (.iaload, 1) := by decide +kernel
theorem dL_law_433 : decode cL_law 433 = .ok (.aload_n 0, 1) := by decide +kernel
theorem dL_law_434 : decode cL_law 434 = .ok (.iload 4, 2) := by decide +kernel
theorem dL_law_436 : decode cL_law 436 = .ok (.iconst 2, 1) := by decide +kernel
theorem dL_law_437 : decode cL_law 437 = .ok (.iadd, 1) := by decide +kernel
theorem dL_law_438 : decode cL_law 438 = .ok (.iaload, 1) := by decide +kernel
theorem dL_law_439 : decode cL_law 439 = .ok (.aload_n 3, 1) := by decide +kernel
theorem dL_law_440 : decode cL_law 440 = .ok (.invokestatic 50, 3) := by decide +kernel
theorem dL_law_443 : decode cL_law 443 = .ok (.istore 5, 2) := by decide +kernel
theorem dL_law_445 : decode cL_law 445 = .ok (.aload_n 2, 1) := by decide +kernel
theorem dL_law_446 : decode cL_law 446 = .ok (.aload_n 0, 1) := by decide +kernel
theorem dL_law_447 : decode cL_law 447 = .ok (.iload 4, 2) := by decide +kernel
theorem dL_law_449 : decode cL_law 449 = .ok (.iconst 1, 1) := by decide +kernel
theorem dL_law_450 : decode cL_law 450 = .ok (.iadd, 1) := by decide +kernel
theorem dL_law_451 : decode cL_law 451 = .ok (.iaload, 1) := by decide +kernel
theorem dL_law_452 : decode cL_law 452 = .ok (.aload_n 0, 1) := by decide +kernel
theorem dL_law_453 : decode cL_law 453 = .ok (.iload 4, 2) := by decide +kernel
theorem dL_law_455 : decode cL_law 455 = .ok (.iconst 2, 1) := by decide +kernel
theorem dL_law_456 : decode cL_law 456 = .ok (.iadd, 1) := by decide +kernel
theorem dL_law_457 : decode cL_law 457 = .ok (.iaload, 1) := by decide +kernel
theorem dL_law_458 : decode cL_law 458 = .ok (.invokevirtual 55, 3) := by decide +kernel
theorem dL_law_461 : decode cL_law 461 = .ok (.istore 6, 2) := by decide +kernel
theorem dL_law_463 : decode cL_law 463 = .ok (.goto 870, 3) := by decide +kernel
theorem dL_law_466 : decode cL_law 466 = .ok (.aload_n 1, 1) := by decide +kernel
theorem dL_law_467 : decode cL_law 467 = .ok (.invokevirtual 56, 3) := by decide +kernel
theorem dL_law_470 : decode cL_law 470 = .ok (.pop, 1) := by decide +kernel
theorem dL_law_471 : decode cL_law 471 = .ok (.aload_n 2, 1) := by decide +kernel
theorem dL_law_472 : decode cL_law 472 = .ok (.invokevirtual 59, 3) := by decide +kernel
theorem dL_law_475 : decode cL_law 475 = .ok (.pop, 1) := by decide +kernel
theorem dL_law_476 : decode cL_law 476 = .ok (.goto 857, 3) := by decide +kernel
theorem dL_law_479 : decode cL_law 479 = .ok (.aload_n 1, 1) := by decide +kernel
theorem dL_law_480 : decode cL_law 480 = .ok (.invokevirtual 60, 3) := by decide +kernel
theorem dL_law_483 : decode cL_law 483 = .ok (.pop, 1) := by decide +kernel
theorem dL_law_484 : decode cL_law 484 = .ok (.aload_n 2, 1) := by decide +kernel
theorem dL_law_485 : decode cL_law 485 = .ok (.invokevirtual 63, 3) := by decide +kernel
theorem dL_law_488 : decode cL_law 488 = .ok (.pop, 1) := by decide +kernel
theorem dL_law_489 : decode cL_law 489 = .ok (.goto 844, 3) := by decide +kernel
theorem dL_law_492 : decode cL_law 492 = .ok (.aload_n 1, 1) := by decide +kernel
theorem dL_law_493 : decode cL_law 493 = .ok (.aload_n 0, 1) := by decide +kernel
theorem dL_law_494 : decode cL_law 494 = .ok (.iload 4, 2) := by decide +kernel
theorem dL_law_496 : decode cL_law 496 = .ok (.iconst 1, 1) := by decide +kernel
theorem dL_law_497 : decode cL_law 497 = .ok (.iadd, 1) := by decide +kernel
theorem dL_law_498 : decode cL_law 498 = .ok (.iaload, 1) := by decide +kernel
theorem dL_law_499 : decode cL_law 499 = .ok (.aload_n 0, 1) := by decide +kernel
theorem dL_law_500 : decode cL_law 500 = .ok (.iload 4, 2) := by decide +kernel
theorem dL_law_502 : decode cL_law 502 = .ok (.iconst 2, 1) := by decide +kernel
theorem dL_law_503 : decode cL_law 503 = .ok (.iadd, 1) := by decide +kernel
theorem dL_law_504 : decode cL_law 504 = .ok (.iaload, 1) := by decide +kernel
theorem dL_law_505 : decode cL_law 505 = .ok (.aload_n 0, 1) := by decide +kernel
theorem dL_law_506 : decode cL_law 506 = .ok (.iload 4, 2) := by decide +kernel
theorem dL_law_508 : decode cL_law 508 = .ok (.iconst 3, 1) := by decide +kernel
theorem dL_law_509 : decode cL_law 509 = .ok (.iadd, 1) := by decide +kernel
theorem dL_law_510 : decode cL_law 510 = .ok (.iaload, 1) := by decide +kernel
theorem dL_law_511 : decode cL_law 511 = .ok (.aload_n 0, 1) := by decide +kernel
theorem dL_law_512 : decode cL_law 512 = .ok (.iload 4, 2) := by decide +kernel
theorem dL_law_514 : decode cL_law 514 = .ok (.iconst 4, 1) := by decide +kernel
theorem dL_law_515 : decode cL_law 515 = .ok (.iadd, 1) := by decide +kernel
theorem dL_law_516 : decode cL_law 516 = .ok (.iaload, 1) := by decide +kernel
theorem dL_law_517 : decode cL_law 517 = .ok (.aload_n 0, 1) := by decide +kernel
theorem dL_law_518 : decode cL_law 518 = .ok (.iload 4, 2) := by decide +kernel
theorem dL_law_520 : decode cL_law 520 = .ok (.iconst 5, 1) := by decide +kernel
theorem dL_law_521 : decode cL_law 521 = .ok (.iadd, 1) := by decide +kernel
theorem dL_law_522 : decode cL_law 522 = .ok (.iaload, 1) := by decide +kernel
theorem dL_law_523 : decode cL_law 523 = .ok (.invokevirtual 64, 3) := by decide +kernel
theorem dL_law_526 : decode cL_law 526 = .ok (.pop, 1) := by decide +kernel
theorem dL_law_527 : decode cL_law 527 = .ok (.aload_n 2, 1) := by decide +kernel
theorem dL_law_528 : decode cL_law 528 = .ok (.aload_n 0, 1) := by decide +kernel
theorem dL_law_529 : decode cL_law 529 = .ok (.iload 4, 2) := by decide +kernel
theorem dL_law_531 : decode cL_law 531 = .ok (.iconst 1, 1) := by decide +kernel
theorem dL_law_532 : decode cL_law 532 = .ok (.iadd, 1) := by decide +kernel
theorem dL_law_533 : decode cL_law 533 = .ok (.iaload, 1) := by decide +kernel
theorem dL_law_534 : decode cL_law 534 = .ok (.aload_n 0, 1) := by decide +kernel
theorem dL_law_535 : decode cL_law 535 = .ok (.iload 4, 2) := by decide +kernel
theorem dL_law_537 : decode cL_law 537 = .ok (.iconst 2, 1) := by decide +kernel
theorem dL_law_538 : decode cL_law 538 = .ok (.iadd, 1) := by decide +kernel
theorem dL_law_539 : decode cL_law 539 = .ok (.iaload, 1) := by decide +kernel
theorem dL_law_540 : decode cL_law 540 = .ok (.aload_n 0, 1) := by decide +kernel
theorem dL_law_541 : decode cL_law 541 = .ok (.iload 4, 2) := by decide +kernel
theorem dL_law_543 : decode cL_law 543 = .ok (.iconst 3, 1) := by decide +kernel
theorem dL_law_544 : decode cL_law 544 = .ok (.iadd, 1) := by decide +kernel
theorem dL_law_545 : decode cL_law 545 = .ok (.iaload, 1) := by decide +kernel
theorem dL_law_546 : decode cL_law 546 = .ok (.aload_n 0, 1) := by decide +kernel
theorem dL_law_547 : decode cL_law 547 = .ok (.iload 4, 2) := by decide +kernel
theorem dL_law_549 : decode cL_law 549 = .ok (.iconst 4, 1) := by decide +kernel
theorem dL_law_550 : decode cL_law 550 = .ok (.iadd, 1) := by decide +kernel
theorem dL_law_551 : decode cL_law 551 = .ok (.iaload, 1) := by decide +kernel
theorem dL_law_552 : decode cL_law 552 = .ok (.aload_n 0, 1) := by decide +kernel
theorem dL_law_553 : decode cL_law 553 = .ok (.iload 4, 2) := by decide +kernel
theorem dL_law_555 : decode cL_law 555 = .ok (.iconst 5, 1) := by decide +kernel
theorem dL_law_556 : decode cL_law 556 = .ok (.iadd, 1) := by decide +kernel
theorem dL_law_557 : decode cL_law 557 = .ok (.iaload, 1) := by decide +kernel
theorem dL_law_558 : decode cL_law 558 = .ok (.invokevirtual 67, 3) := by decide +kernel
theorem dL_law_561 : decode cL_law 561 = .ok (.pop, 1) := by decide +kernel
theorem dL_law_562 : decode cL_law 562 = .ok (.goto 771, 3) := by decide +kernel
theorem dL_law_565 : decode cL_law 565 = .ok (.aload_n 1, 1) := by decide +kernel
theorem dL_law_566 : decode cL_law 566 = .ok (.aload_n 0, 1) := by decide +kernel
theorem dL_law_567 : decode cL_law 567 = .ok (.iload 4, 2) := by decide +kernel
theorem dL_law_569 : decode cL_law 569 = .ok (.iconst 1, 1) := by decide +kernel
theorem dL_law_570 : decode cL_law 570 = .ok (.iadd, 1) := by decide +kernel
theorem dL_law_571 : decode cL_law 571 = .ok (.iaload, 1) := by decide +kernel
theorem dL_law_572 : decode cL_law 572 = .ok (.invokevirtual 68, 3) := by decide +kernel
theorem dL_law_575 : decode cL_law 575 = .ok (.pop, 1) := by decide +kernel
theorem dL_law_576 : decode cL_law 576 = .ok (.aload_n 2, 1) := by decide +kernel
theorem dL_law_577 : decode cL_law 577 = .ok (.aload_n 0, 1) := by decide +kernel
theorem dL_law_578 : decode cL_law 578 = .ok (.iload 4, 2) := by decide +kernel
theorem dL_law_580 : decode cL_law 580 = .ok (.iconst 1, 1) := by decide +kernel
theorem dL_law_581 : decode cL_law 581 = .ok (.iadd, 1) := by decide +kernel
theorem dL_law_582 : decode cL_law 582 = .ok (.iaload, 1) := by decide +kernel
theorem dL_law_583 : decode cL_law 583 = .ok (.invokevirtual 71, 3) := by decide +kernel
theorem dL_law_586 : decode cL_law 586 = .ok (.pop, 1) := by decide +kernel
theorem dL_law_587 : decode cL_law 587 = .ok (.goto 746, 3) := by decide +kernel
theorem dL_law_590 : decode cL_law 590 = .ok (.aload_n 1, 1) := by decide +kernel
theorem dL_law_591 : decode cL_law 591 = .ok (.aload_n 0, 1) := by decide +kernel
theorem dL_law_592 : decode cL_law 592 = .ok (.iload 4, 2) := by decide +kernel
theorem dL_law_594 : decode cL_law 594 = .ok (.iconst 1, 1) := by decide +kernel
theorem dL_law_595 : decode cL_law 595 = .ok (.iadd, 1) := by decide +kernel
theorem dL_law_596 : decode cL_law 596 = .ok (.iaload, 1) := by decide +kernel
theorem dL_law_597 : decode cL_law 597 = .ok (.invokevirtual 72, 3) := by decide +kernel
theorem dL_law_600 : decode cL_law 600 = .ok (.pop, 1) := by decide +kernel
theorem dL_law_601 : decode cL_law 601 = .ok (.aload_n 2, 1) := by decide +kernel
theorem dL_law_602 : decode cL_law 602 = .ok (.aload_n 0, 1) := by decide +kernel
theorem dL_law_603 : decode cL_law 603 = .ok (.iload 4, 2) := by decide +kernel
theorem dL_law_605 : decode cL_law 605 = .ok (.iconst 1, 1) := by decide +kernel
theorem dL_law_606 : decode cL_law 606 = .ok (.iadd, 1) := by decide +kernel
theorem dL_law_607 : decode cL_law 607 = .ok (.iaload, 1) := by decide +kernel
theorem dL_law_608 : decode cL_law 608 = .ok (.invokevirtual 75, 3) := by decide +kernel
theorem dL_law_611 : decode cL_law 611 = .ok (.pop, 1) := by decide +kernel
theorem dL_law_612 : decode cL_law 612 = .ok (.goto 721, 3) := by decide +kernel
theorem dL_law_615 : decode cL_law 615 = .ok (.aload_n 1, 1) := by decide +kernel
theorem dL_law_616 : decode cL_law 616 = .ok (.aload_n 0, 1) := by decide +kernel
theorem dL_law_617 : decode cL_law 617 = .ok (.iload 4, 2) := by decide +kernel
theorem dL_law_619 : decode cL_law 619 = .ok (.iconst 1, 1) := by decide +kernel
theorem dL_law_620 : decode cL_law 620 = .ok (.iadd, 1) := by decide +kernel
theorem dL_law_621 : decode cL_law 621 = .ok (.iaload, 1) := by decide +kernel
theorem dL_law_622 : decode cL_law 622 = .ok (.aload_n 0, 1) := by decide +kernel
theorem dL_law_623 : decode cL_law 623 = .ok (.iload 4, 2) := by decide +kernel
theorem dL_law_625 : decode cL_law 625 = .ok (.iconst 2, 1) := by decide +kernel
theorem dL_law_626 : decode cL_law 626 = .ok (.iadd, 1) := by decide +kernel
theorem dL_law_627 : decode cL_law 627 = .ok (.iaload, 1) := by decide +kernel
theorem dL_law_628 : decode cL_law 628 = .ok (.aload_n 0, 1) := by decide +kernel
theorem dL_law_629 : decode cL_law 629 = .ok (.iload 4, 2) := by decide +kernel
theorem dL_law_631 : decode cL_law 631 = .ok (.iconst 3, 1) := by decide +kernel
theorem dL_law_632 : decode cL_law 632 = .ok (.iadd, 1) := by decide +kernel
theorem dL_law_633 : decode cL_law 633 = .ok (.iaload, 1) := by decide +kernel
theorem dL_law_634 : decode cL_law 634 = .ok (.aload_n 0, 1) := by decide +kernel
theorem dL_law_635 : decode cL_law 635 = .ok (.iload 4, 2) := by decide +kernel
theorem dL_law_637 : decode cL_law 637 = .ok (.iconst 4, 1) := by decide +kernel
theorem dL_law_638 : decode cL_law 638 = .ok (.iadd, 1) := by decide +kernel
theorem dL_law_639 : decode cL_law 639 = .ok (.iaload, 1) := by decide +kernel
theorem dL_law_640 : decode cL_law 640 = .ok (.invokevirtual 76, 3) := by decide +kernel
theorem dL_law_643 : decode cL_law 643 = .ok (.pop, 1) := by decide +kernel
theorem dL_law_644 : decode cL_law 644 = .ok (.aload_n 2, 1) := by decide +kernel
theorem dL_law_645 : decode cL_law 645 = .ok (.aload_n 0, 1) := by decide +kernel
theorem dL_law_646 : decode cL_law 646 = .ok (.iload 4, 2) := by decide +kernel
theorem dL_law_648 : decode cL_law 648 = .ok (.iconst 1, 1) := by decide +kernel
theorem dL_law_649 : decode cL_law 649 = .ok (.iadd, 1) := by decide +kernel
theorem dL_law_650 : decode cL_law 650 = .ok (.iaload, 1) := by decide +kernel
theorem dL_law_651 : decode cL_law 651 = .ok (.aload_n 0, 1) := by decide +kernel
theorem dL_law_652 : decode cL_law 652 = .ok (.iload 4, 2) := by decide +kernel
theorem dL_law_654 : decode cL_law 654 = .ok (.iconst 2, 1) := by decide +kernel
theorem dL_law_655 : decode cL_law 655 = .ok (.iadd, 1) := by decide +kernel
theorem dL_law_656 : decode cL_law 656 = .ok (.iaload, 1) := by decide +kernel
theorem dL_law_657 : decode cL_law 657 = .ok (.aload_n 0, 1) := by decide +kernel
theorem dL_law_658 : decode cL_law 658 = .ok (.iload 4, 2) := by decide +kernel
theorem dL_law_660 : decode cL_law 660 = .ok (.iconst 3, 1) := by decide +kernel
theorem dL_law_661 : decode cL_law 661 = .ok (.iadd, 1) := by decide +kernel
theorem dL_law_662 : decode cL_law 662 = .ok (.iaload, 1) := by decide +kernel
theorem dL_law_663 : decode cL_law 663 = .ok (.aload_n 0, 1) := by decide +kernel
theorem dL_law_664 : decode cL_law 664 = .ok (.iload 4, 2) := by decide +kernel
theorem dL_law_666 : decode cL_law 666 = .ok (.iconst 4, 1) := by decide +kernel
theorem dL_law_667 : decode cL_law 667 = .ok (.iadd, 1) := by decide +kernel
theorem dL_law_668 : decode cL_law 668 = .ok (.iaload, 1) := by decide +kernel
theorem dL_law_669 : decode cL_law 669 = .ok (.invokevirtual 80, 3) := by decide +kernel
theorem dL_law_672 : decode cL_law 672 = .ok (.pop, 1) := by decide +kernel
theorem dL_law_673 : decode cL_law 673 = .ok (.goto 660, 3) := by decide +kernel
theorem dL_law_676 : decode cL_law 676 = .ok (.aload_n 1, 1) := by decide +kernel
theorem dL_law_677 : decode cL_law 677 = .ok (.aload_n 0, 1) := by decide +kernel
theorem dL_law_678 : decode cL_law 678 = .ok (.iload 4, 2) := by decide +kernel
theorem dL_law_680 : decode cL_law 680 = .ok (.iconst 1, 1) := by decide +kernel
theorem dL_law_681 : decode cL_law 681 = .ok (.iadd, 1) := by decide +kernel
theorem dL_law_682 : decode cL_law 682 = .ok (.iaload, 1) := by decide +kernel
theorem dL_law_683 : decode cL_law 683 = .ok (.aload_n 0, 1) := by decide +kernel
theorem dL_law_684 : decode cL_law 684 = .ok (.iload 4, 2) := by decide +kernel
theorem dL_law_686 : decode cL_law 686 = .ok (.iconst 2, 1) := by decide +kernel
theorem dL_law_687 : decode cL_law 687 = .ok (.iadd, 1) := by decide +kernel
theorem dL_law_688 : decode cL_law 688 = .ok (.iaload, 1) := by decide +kernel
theorem dL_law_689 : decode cL_law 689 = .ok (.invokevirtual 81, 3) := by decide +kernel
theorem dL_law_692 : decode cL_law 692 = .ok (.pop, 1) := by decide +kernel
theorem dL_law_693 : decode cL_law 693 = .ok (.aload_n 2, 1) := by decide +kernel
theorem dL_law_694 : decode cL_law 694 = .ok (.aload_n 0, 1) := by decide +kernel
theorem dL_law_695 : decode cL_law 695 = .ok (.iload 4, 2) := by decide +kernel
theorem dL_law_697 : decode cL_law 697 = .ok (.iconst 1, 1) := by decide +kernel
theorem dL_law_698 : decode cL_law 698 = .ok (.iadd, 1) := by decide +kernel
theorem dL_law_699 : decode cL_law 699 = .ok (.iaload, 1) := by decide +kernel
theorem dL_law_700 : decode cL_law 700 = .ok (.aload_n 0, 1) := by decide +kernel
theorem dL_law_701 : decode cL_law 701 = .ok (.iload 4, 2) := by decide +kernel
theorem dL_law_703 : decode cL_law 703 = .ok (.iconst 2, 1) := by decide +kernel
theorem dL_law_704 : decode cL_law 704 = .ok (.iadd, 1) := by decide +kernel
theorem dL_law_705 : decode cL_law 705 = .ok (.iaload, 1) := by decide +kernel
theorem dL_law_706 : decode cL_law 706 = .ok (.invokevirtual 84, 3) := by decide +kernel
theorem dL_law_709 : decode cL_law 709 = .ok (.pop, 1) := by decide +kernel
theorem dL_law_710 : decode cL_law 710 = .ok (.goto 623, 3) := by decide +kernel
theorem dL_law_713 : decode cL_law 713 = .ok (.aload_n 1, 1) := by decide +kernel
theorem dL_law_714 : decode cL_law 714 = .ok (.aload_n 0, 1) := by decide +kernel
theorem dL_law_715 : decode cL_law 715 = .ok (.iload 4, 2) := by decide +kernel
theorem dL_law_717 : decode cL_law 717 = .ok (.iconst 1, 1) := by decide +kernel
theorem dL_law_718 : decode cL_law 718 = .ok (.iadd, 1) := by decide +kernel
theorem dL_law_719 : decode cL_law 719 = .ok (.iaload, 1) := by decide +kernel
theorem dL_law_720 : decode cL_law 720 = .ok (.aload_n 0, 1) := by decide +kernel
theorem dL_law_721 : decode cL_law 721 = .ok (.iload 4, 2) := by decide +kernel
theorem dL_law_723 : decode cL_law 723 = .ok (.iconst 2, 1) := by decide +kernel
theorem dL_law_724 : decode cL_law 724 = .ok (.iadd, 1) := by decide +kernel
theorem dL_law_725 : decode cL_law 725 = .ok (.iaload, 1) := by decide +kernel
theorem dL_law_726 : decode cL_law 726 = .ok (.aload_n 0, 1) := by decide +kernel
theorem dL_law_727 : decode cL_law 727 = .ok (.iload 4, 2) := by decide +kernel
theorem dL_law_729 : decode cL_law 729 = .ok (.iconst 3, 1) := by decide +kernel
theorem dL_law_730 : decode cL_law 730 = .ok (.iadd, 1) := by decide +kernel
theorem dL_law_731 : decode cL_law 731 = .ok (.iaload, 1) := by decide +kernel
theorem dL_law_732 : decode cL_law 732 = .ok (.invokevirtual 85, 3) := by decide +kernel
theorem dL_law_735 : decode cL_law 735 = .ok (.pop, 1) := by decide +kernel
theorem dL_law_736 : decode cL_law 736 = .ok (.aload_n 2, 1) := by decide +kernel
theorem dL_law_737 : decode cL_law 737 = .ok (.aload_n 0, 1) := by decide +kernel
theorem dL_law_738 : decode cL_law 738 = .ok (.iload 4, 2) := by decide +kernel
theorem dL_law_740 : decode cL_law 740 = .ok (.iconst 1, 1) := by decide +kernel
theorem dL_law_741 : decode cL_law 741 = .ok (.iadd, 1) := by decide +kernel
theorem dL_law_742 : decode cL_law 742 = .ok (.iaload, 1) := by decide +kernel
theorem dL_law_743 : decode cL_law 743 = .ok (.aload_n 0, 1) := by decide +kernel
theorem dL_law_744 : decode cL_law 744 = .ok (.iload 4, 2) := by decide +kernel
theorem dL_law_746 : decode cL_law 746 = .ok (.iconst 2, 1) := by decide +kernel
theorem dL_law_747 : decode cL_law 747 = .ok (.iadd, 1) := by decide +kernel
theorem dL_law_748 : decode cL_law 748 = .ok (.iaload, 1) := by decide +kernel
theorem dL_law_749 : decode cL_law 749 = .ok (.aload_n 0, 1) := by decide +kernel
theorem dL_law_750 : decode cL_law 750 = .ok (.iload 4, 2) := by decide +kernel
theorem dL_law_752 : decode cL_law 752 = .ok (.iconst 3, 1) := by decide +kernel
theorem dL_law_753 : decode cL_law 753 = .ok (.iadd, 1) := by decide +kernel
theorem dL_law_754 : decode cL_law 754 = .ok (.iaload, 1) := by decide +kernel
theorem dL_law_755 : decode cL_law 755 = .ok (.invokevirtual 89, 3) := by decide +kernel
theorem dL_law_758 : decode cL_law 758 = .ok (.pop, 1) := by decide +kernel
theorem dL_law_759 : decode cL_law 759 = .ok (.goto 574, 3) := by decide +kernel
theorem dL_law_762 : decode cL_law 762 = .ok (.aload_n 1, 1) := by decide +kernel
theorem dL_law_763 : decode cL_law 763 = .ok (.invokevirtual 90, 3) := by decide +kernel
theorem dL_law_766 : decode cL_law 766 = .ok (.pop, 1) := by decide +kernel
theorem dL_law_767 : decode cL_law 767 = .ok (.aload_n 2, 1) := by decide +kernel
theorem dL_law_768 : decode cL_law 768 = .ok (.invokevirtual 93, 3) := by decide +kernel
theorem dL_law_771 : decode cL_law 771 = .ok (.pop, 1) := by decide +kernel
theorem dL_law_772 : decode cL_law 772 = .ok (.goto 561, 3) := by decide +kernel
theorem dL_law_775 : decode cL_law 775 = .ok (.aload_n 1, 1) := by decide +kernel
theorem dL_law_776 : decode cL_law 776 = .ok (.aload_n 0, 1) := by decide +kernel
theorem dL_law_777 : decode cL_law 777 = .ok (.iload 4, 2) := by decide +kernel
theorem dL_law_779 : decode cL_law 779 = .ok (.iconst 1, 1) := by decide +kernel
theorem dL_law_780 : decode cL_law 780 = .ok (.iadd, 1) := by decide +kernel
theorem dL_law_781 : decode cL_law 781 = .ok (.iaload, 1) := by decide +kernel
theorem dL_law_782 : decode cL_law 782 = .ok (.invokevirtual 94, 3) := by decide +kernel
theorem dL_law_785 : decode cL_law 785 = .ok (.pop, 1) := by decide +kernel
theorem dL_law_786 : decode cL_law 786 = .ok (.aload_n 2, 1) := by decide +kernel
theorem dL_law_787 : decode cL_law 787 = .ok (.aload_n 0, 1) := by decide +kernel
theorem dL_law_788 : decode cL_law 788 = .ok (.iload 4, 2) := by decide +kernel
theorem dL_law_790 : decode cL_law 790 = .ok (.iconst 1, 1) := by decide +kernel
theorem dL_law_791 : decode cL_law 791 = .ok (.iadd, 1) := by decide +kernel
theorem dL_law_792 : decode cL_law 792 = .ok (.iaload, 1) := by decide +kernel
theorem dL_law_793 : decode cL_law 793 = .ok (.invokevirtual 97, 3) := by decide +kernel
theorem dL_law_796 : decode cL_law 796 = .ok (.pop, 1) := by decide +kernel
theorem dL_law_797 : decode cL_law 797 = .ok (.goto 536, 3) := by decide +kernel
theorem dL_law_800 : decode cL_law 800 = .ok (.aload_n 1, 1) := by decide +kernel
theorem dL_law_801 : decode cL_law 801 = .ok (.aload_n 0, 1) := by decide +kernel
theorem dL_law_802 : decode cL_law 802 = .ok (.iload 4, 2) := by decide +kernel
theorem dL_law_804 : decode cL_law 804 = .ok (.iconst 1, 1) := by decide +kernel
theorem dL_law_805 : decode cL_law 805 = .ok (.iadd, 1) := by decide +kernel
theorem dL_law_806 : decode cL_law 806 = .ok (.iaload, 1) := by decide +kernel
theorem dL_law_807 : decode cL_law 807 = .ok (.invokevirtual 98, 3) := by decide +kernel
theorem dL_law_810 : decode cL_law 810 = .ok (.pop, 1) := by decide +kernel
theorem dL_law_811 : decode cL_law 811 = .ok (.aload_n 2, 1) := by decide +kernel
theorem dL_law_812 : decode cL_law 812 = .ok (.aload_n 0, 1) := by decide +kernel
theorem dL_law_813 : decode cL_law 813 = .ok (.iload 4, 2) := by decide +kernel
theorem dL_law_815 : decode cL_law 815 = .ok (.iconst 1, 1) := by decide +kernel
theorem dL_law_816 : decode cL_law 816 = .ok (.iadd, 1) := by decide +kernel
theorem dL_law_817 : decode cL_law 817 = .ok (.iaload, 1) := by decide +kernel
theorem dL_law_818 : decode cL_law 818 = .ok (.invokevirtual 101, 3) := by decide +kernel
theorem dL_law_821 : decode cL_law 821 = .ok (.pop, 1) := by decide +kernel
theorem dL_law_822 : decode cL_law 822 = .ok (.goto 511, 3) := by decide +kernel
theorem dL_law_825 : decode cL_law 825 = .ok (.aload_n 1, 1) := by decide +kernel
theorem dL_law_826 : decode cL_law 826 = .ok (.invokevirtual 102, 3) := by decide +kernel
theorem dL_law_829 : decode cL_law 829 = .ok (.pop, 1) := by decide +kernel
theorem dL_law_830 : decode cL_law 830 = .ok (.aload_n 2, 1) := by decide +kernel
theorem dL_law_831 : decode cL_law 831 = .ok (.invokevirtual 105, 3) := by decide +kernel
theorem dL_law_834 : decode cL_law 834 = .ok (.pop, 1) := by decide +kernel
theorem dL_law_835 : decode cL_law 835 = .ok (.goto 498, 3) := by decide +kernel
theorem dL_law_838 : decode cL_law 838 = .ok (.aload_n 1, 1) := by decide +kernel
theorem dL_law_839 : decode cL_law 839 = .ok (.aload_n 0, 1) := by decide +kernel
theorem dL_law_840 : decode cL_law 840 = .ok (.iload 4, 2) := by decide +kernel
theorem dL_law_842 : decode cL_law 842 = .ok (.iconst 1, 1) := by decide +kernel
theorem dL_law_843 : decode cL_law 843 = .ok (.iadd, 1) := by decide +kernel
theorem dL_law_844 : decode cL_law 844 = .ok (.iaload, 1) := by decide +kernel
theorem dL_law_845 : decode cL_law 845 = .ok (.aload_n 0, 1) := by decide +kernel
theorem dL_law_846 : decode cL_law 846 = .ok (.iload 4, 2) := by decide +kernel
theorem dL_law_848 : decode cL_law 848 = .ok (.iconst 2, 1) := by decide +kernel
theorem dL_law_849 : decode cL_law 849 = .ok (.iadd, 1) := by decide +kernel
theorem dL_law_850 : decode cL_law 850 = .ok (.iaload, 1) := by decide +kernel
theorem dL_law_851 : decode cL_law 851 = .ok (.invokevirtual 106, 3) := by decide +kernel
theorem dL_law_854 : decode cL_law 854 = .ok (.aload_n 2, 1) := by decide +kernel
theorem dL_law_855 : decode cL_law 855 = .ok (.aload_n 0, 1) := by decide +kernel
theorem dL_law_856 : decode cL_law 856 = .ok (.iload 4, 2) := by decide +kernel
theorem dL_law_858 : decode cL_law 858 = .ok (.iconst 1, 1) := by decide +kernel
theorem dL_law_859 : decode cL_law 859 = .ok (.iadd, 1) := by decide +kernel
theorem dL_law_860 : decode cL_law 860 = .ok (.iaload, 1) := by decide +kernel
theorem dL_law_861 : decode cL_law 861 = .ok (.aload_n 0, 1) := by decide +kernel
theorem dL_law_862 : decode cL_law 862 = .ok (.iload 4, 2) := by decide +kernel
theorem dL_law_864 : decode cL_law 864 = .ok (.iconst 2, 1) := by decide +kernel
theorem dL_law_865 : decode cL_law 865 = .ok (.iadd, 1) := by decide +kernel
theorem dL_law_866 : decode cL_law 866 = .ok (.iaload, 1) := by decide +kernel
theorem dL_law_867 : decode cL_law 867 = .ok (.invokevirtual 109, 3) := by decide +kernel
theorem dL_law_870 : decode cL_law 870 = .ok (.if_icmp .eq 463, 3) := by decide +kernel
theorem dL_law_873 : decode cL_law 873 = .ok (.iconst 0, 1) := by decide +kernel
theorem dL_law_874 : decode cL_law 874 = .ok (.ireturn, 1) := by decide +kernel
theorem dL_law_875 : decode cL_law 875 = .ok (.aload_n 1, 1) := by decide +kernel
theorem dL_law_876 : decode cL_law 876 = .ok (.invokevirtual 110, 3) := by decide +kernel
theorem dL_law_879 : decode cL_law 879 = .ok (.pop, 1) := by decide +kernel
theorem dL_law_880 : decode cL_law 880 = .ok (.aload_n 2, 1) := by decide +kernel
theorem dL_law_881 : decode cL_law 881 = .ok (.invokevirtual 113, 3) := by decide +kernel
theorem dL_law_884 : decode cL_law 884 = .ok (.pop, 1) := by decide +kernel
theorem dL_law_885 : decode cL_law 885 = .ok (.goto 448, 3) := by decide +kernel
theorem dL_law_888 : decode cL_law 888 = .ok (.aload_n 1, 1) := by decide +kernel
theorem dL_law_889 : decode cL_law 889 = .ok (.invokevirtual 114, 3) := by decide +kernel
theorem dL_law_892 : decode cL_law 892 = .ok (.pop, 1) := by decide +kernel
theorem dL_law_893 : decode cL_law 893 = .ok (.aload_n 2, 1) := by decide +kernel
theorem dL_law_894 : decode cL_law 894 = .ok (.invokevirtual 117, 3) := by decide +kernel
theorem dL_law_897 : decode cL_law 897 = .ok (.pop, 1) := by decide +kernel
theorem dL_law_898 : decode cL_law 898 = .ok (.goto 435, 3) := by decide +kernel
theorem dL_law_901 : decode cL_law 901 = .ok (.aload_n 1, 1) := by decide +kernel
theorem dL_law_902 : decode cL_law 902 = .ok (.aload_n 0, 1) := by decide +kernel
theorem dL_law_903 : decode cL_law 903 = .ok (.iload 4, 2) := by decide +kernel
theorem dL_law_905 : decode cL_law 905 = .ok (.iconst 1, 1) := by decide +kernel
theorem dL_law_906 : decode cL_law 906 = .ok (.iadd, 1) := by decide +kernel
theorem dL_law_907 : decode cL_law 907 = .ok (.iaload, 1) := by decide +kernel
theorem dL_law_908 : decode cL_law 908 = .ok (.invokevirtual 118, 3) := by decide +kernel
theorem dL_law_911 : decode cL_law 911 = .ok (.pop, 1) := by decide +kernel
theorem dL_law_912 : decode cL_law 912 = .ok (.aload_n 2, 1) := by decide +kernel
theorem dL_law_913 : decode cL_law 913 = .ok (.aload_n 0, 1) := by decide +kernel
theorem dL_law_914 : decode cL_law 914 = .ok (.iload 4, 2) := by decide +kernel
theorem dL_law_916 : decode cL_law 916 = .ok (.iconst 1, 1) := by decide +kernel
theorem dL_law_917 : decode cL_law 917 = .ok (.iadd, 1) := by decide +kernel
theorem dL_law_918 : decode cL_law 918 = .ok (.iaload, 1) := by decide +kernel
theorem dL_law_919 : decode cL_law 919 = .ok (.invokevirtual 121, 3) := by decide +kernel
theorem dL_law_922 : decode cL_law 922 = .ok (.pop, 1) := by decide +kernel
theorem dL_law_923 : decode cL_law 923 = .ok (.goto 410, 3) := by decide +kernel
theorem dL_law_926 : decode cL_law 926 = .ok (.aload_n 1, 1) := by decide +kernel
theorem dL_law_927 : decode cL_law 927 = .ok (.aload_n 0, 1) := by decide +kernel
theorem dL_law_928 : decode cL_law 928 = .ok (.iload 4, 2) := by decide +kernel
theorem dL_law_930 : decode cL_law 930 = .ok (.iconst 1, 1) := by decide +kernel
theorem dL_law_931 : decode cL_law 931 = .ok (.iadd, 1) := by decide +kernel
theorem dL_law_932 : decode cL_law 932 = .ok (.iaload, 1) := by decide +kernel
theorem dL_law_933 : decode cL_law 933 = .ok (.invokevirtual 122, 3) := by decide +kernel
theorem dL_law_936 : decode cL_law 936 = .ok (.pop, 1) := by decide +kernel
theorem dL_law_937 : decode cL_law 937 = .ok (.aload_n 2, 1) := by decide +kernel
theorem dL_law_938 : decode cL_law 938 = .ok (.aload_n 0, 1) := by decide +kernel
theorem dL_law_939 : decode cL_law 939 = .ok (.iload 4, 2) := by decide +kernel
theorem dL_law_941 : decode cL_law 941 = .ok (.iconst 1, 1) := by decide +kernel
theorem dL_law_942 : decode cL_law 942 = .ok (.iadd, 1) := by decide +kernel
theorem dL_law_943 : decode cL_law 943 = .ok (.iaload, 1) := by decide +kernel
theorem dL_law_944 : decode cL_law 944 = .ok (.invokevirtual 125, 3) := by decide +kernel
theorem dL_law_947 : decode cL_law 947 = .ok (.pop, 1) := by decide +kernel
theorem dL_law_948 : decode cL_law 948 = .ok (.goto 385, 3) := by decide +kernel
theorem dL_law_951 : decode cL_law 951 = .ok (.aload_n 1, 1) := by decide +kernel
theorem dL_law_952 : decode cL_law 952 = .ok (.aload_n 0, 1) := by decide +kernel
theorem dL_law_953 : decode cL_law 953 = .ok (.iload 4, 2) := by decide +kernel
theorem dL_law_955 : decode cL_law 955 = .ok (.iconst 1, 1) := by decide +kernel
theorem dL_law_956 : decode cL_law 956 = .ok (.iadd, 1) := by decide +kernel
theorem dL_law_957 : decode cL_law 957 = .ok (.iaload, 1) := by decide +kernel
theorem dL_law_958 : decode cL_law 958 = .ok (.invokevirtual 126, 3) := by decide +kernel
theorem dL_law_961 : decode cL_law 961 = .ok (.pop, 1) := by decide +kernel
theorem dL_law_962 : decode cL_law 962 = .ok (.aload_n 2, 1) := by decide +kernel
theorem dL_law_963 : decode cL_law 963 = .ok (.aload_n 0, 1) := by decide +kernel
theorem dL_law_964 : decode cL_law 964 = .ok (.iload 4, 2) := by decide +kernel
theorem dL_law_966 : decode cL_law 966 = .ok (.iconst 1, 1) := by decide +kernel
theorem dL_law_967 : decode cL_law 967 = .ok (.iadd, 1) := by decide +kernel
theorem dL_law_968 : decode cL_law 968 = .ok (.iaload, 1) := by decide +kernel
theorem dL_law_969 : decode cL_law 969 = .ok (.invokevirtual 129, 3) := by decide +kernel
theorem dL_law_972 : decode cL_law 972 = .ok (.pop, 1) := by decide +kernel
theorem dL_law_973 : decode cL_law 973 = .ok (.goto 360, 3) := by decide +kernel
theorem dL_law_976 : decode cL_law 976 = .ok (.aload_n 1, 1) := by decide +kernel
theorem dL_law_977 : decode cL_law 977 = .ok (.invokevirtual 130, 3) := by decide +kernel
theorem dL_law_980 : decode cL_law 980 = .ok (.pop, 1) := by decide +kernel
theorem dL_law_981 : decode cL_law 981 = .ok (.aload_n 2, 1) := by decide +kernel
theorem dL_law_982 : decode cL_law 982 = .ok (.invokevirtual 133, 3) := by decide +kernel
theorem dL_law_985 : decode cL_law 985 = .ok (.pop, 1) := by decide +kernel
theorem dL_law_986 : decode cL_law 986 = .ok (.goto 347, 3) := by decide +kernel
theorem dL_law_989 : decode cL_law 989 = .ok (.aload_n 1, 1) := by decide +kernel
theorem dL_law_990 : decode cL_law 990 = .ok (.aload_n 0, 1) := by decide +kernel
theorem dL_law_991 : decode cL_law 991 = .ok (.iload 4, 2) := by decide +kernel
theorem dL_law_993 : decode cL_law 993 = .ok (.iconst 1, 1) := by decide +kernel
theorem dL_law_994 : decode cL_law 994 = .ok (.iadd, 1) := by decide +kernel
theorem dL_law_995 : decode cL_law 995 = .ok (.iaload, 1) := by decide +kernel
theorem dL_law_996 : decode cL_law 996 = .ok (.aload_n 0, 1) := by decide +kernel
theorem dL_law_997 : decode cL_law 997 = .ok (.iload 4, 2) := by decide +kernel
theorem dL_law_999 : decode cL_law 999 = .ok (.iconst 2, 1) := by decide +kernel
theorem dL_law_1000 : decode cL_law 1000 = .ok (.iadd, 1) := by decide +kernel
theorem dL_law_1001 : decode cL_law 1001 = .ok (.iaload, 1) := by decide +kernel
theorem dL_law_1002 : decode cL_law 1002 = .ok (.invokevirtual 134, 3) := by decide +kernel
theorem dL_law_1005 : decode cL_law 1005 = .ok (.pop, 1) := by decide +kernel
theorem dL_law_1006 : decode cL_law 1006 = .ok (.aload_n 2, 1) := by decide +kernel
theorem dL_law_1007 : decode cL_law 1007 = .ok (.aload_n 0, 1) := by decide +kernel
theorem dL_law_1008 : decode cL_law 1008 = .ok (.iload 4, 2) := by decide +kernel
theorem dL_law_1010 : decode cL_law 1010 = .ok (.iconst 1, 1) := by decide +kernel
theorem dL_law_1011 : decode cL_law 1011 = .ok (.iadd, 1) := by decide +kernel
theorem dL_law_1012 : decode cL_law 1012 = .ok (.iaload, 1) := by decide +kernel
theorem dL_law_1013 : decode cL_law 1013 = .ok (.aload_n 0, 1) := by decide +kernel
theorem dL_law_1014 : decode cL_law 1014 = .ok (.iload 4, 2) := by decide +kernel
theorem dL_law_1016 : decode cL_law 1016 = .ok (.iconst 2, 1) := by decide +kernel
theorem dL_law_1017 : decode cL_law 1017 = .ok (.iadd, 1) := by decide +kernel
theorem dL_law_1018 : decode cL_law 1018 = .ok (.iaload, 1) := by decide +kernel
theorem dL_law_1019 : decode cL_law 1019 = .ok (.invokevirtual 137, 3) := by decide +kernel
theorem dL_law_1022 : decode cL_law 1022 = .ok (.pop, 1) := by decide +kernel
theorem dL_law_1023 : decode cL_law 1023 = .ok (.goto 310, 3) := by decide +kernel
theorem dL_law_1026 : decode cL_law 1026 = .ok (.aload_n 1, 1) := by decide +kernel
theorem dL_law_1027 : decode cL_law 1027 = .ok (.aload_n 0, 1) := by decide +kernel
theorem dL_law_1028 : decode cL_law 1028 = .ok (.iload 4, 2) := by decide +kernel
theorem dL_law_1030 : decode cL_law 1030 = .ok (.iconst 1, 1) := by decide +kernel
theorem dL_law_1031 : decode cL_law 1031 = .ok (.iadd, 1) := by decide +kernel
theorem dL_law_1032 : decode cL_law 1032 = .ok (.iaload, 1) := by decide +kernel
theorem dL_law_1033 : decode cL_law 1033 = .ok (.aload_n 0, 1) := by decide +kernel
theorem dL_law_1034 : decode cL_law 1034 = .ok (.iload 4, 2) := by decide +kernel
theorem dL_law_1036 : decode cL_law 1036 = .ok (.iconst 2, 1) := by decide +kernel
theorem dL_law_1037 : decode cL_law 1037 = .ok (.iadd, 1) := by decide +kernel
theorem dL_law_1038 : decode cL_law 1038 = .ok (.iaload, 1) := by decide +kernel
theorem dL_law_1039 : decode cL_law 1039 = .ok (.invokevirtual 138, 3) := by decide +kernel
theorem dL_law_1042 : decode cL_law 1042 = .ok (.pop, 1) := by decide +kernel
theorem dL_law_1043 : decode cL_law 1043 = .ok (.aload_n 2, 1) := by decide +kernel
theorem dL_law_1044 : decode cL_law 1044 = .ok (.aload_n 0, 1) := by decide +kernel
theorem dL_law_1045 : decode cL_law 1045 = .ok (.iload 4, 2) := by decide +kernel
theorem dL_law_1047 : decode cL_law 1047 = .ok (.iconst 1, 1) := by decide +kernel
theorem dL_law_1048 : decode cL_law 1048 = .ok (.iadd, 1) := by decide +kernel
theorem dL_law_1049 : decode cL_law 1049 = .ok (.iaload, 1) := by decide +kernel
theorem dL_law_1050 : decode cL_law 1050 = .ok (.aload_n 0, 1) := by decide +kernel
theorem dL_law_1051 : decode cL_law 1051 = .ok (.iload 4, 2) := by decide +kernel
theorem dL_law_1053 : decode cL_law 1053 = .ok (.iconst 2, 1) := by decide +kernel
theorem dL_law_1054 : decode cL_law 1054 = .ok (.iadd, 1) := by decide +kernel
theorem dL_law_1055 : decode cL_law 1055 = .ok (.iaload, 1) := by decide +kernel
theorem dL_law_1056 : decode cL_law 1056 = .ok (.invokevirtual 141, 3) := by decide +kernel
theorem dL_law_1059 : decode cL_law 1059 = .ok (.pop, 1) := by decide +kernel
theorem dL_law_1060 : decode cL_law 1060 = .ok (.goto 273, 3) := by decide +kernel
theorem dL_law_1063 : decode cL_law 1063 = .ok (.aload_n 1, 1) := by decide +kernel
theorem dL_law_1064 : decode cL_law 1064 = .ok (.invokevirtual 142, 3) := by decide +kernel
theorem dL_law_1067 : decode cL_law 1067 = .ok (.pop, 1) := by decide +kernel
theorem dL_law_1068 : decode cL_law 1068 = .ok (.aload_n 2, 1) := by decide +kernel
theorem dL_law_1069 : decode cL_law 1069 = .ok (.invokevirtual 145, 3) := by decide +kernel
theorem dL_law_1072 : decode cL_law 1072 = .ok (.pop, 1) := by decide +kernel
theorem dL_law_1073 : decode cL_law 1073 = .ok (.goto 260, 3) := by decide +kernel
theorem dL_law_1076 : decode cL_law 1076 = .ok (.aload_n 1, 1) := by decide +kernel
theorem dL_law_1077 : decode cL_law 1077 = .ok (.aload_n 0, 1) := by decide +kernel
theorem dL_law_1078 : decode cL_law 1078 = .ok (.iload 4, 2) := by decide +kernel
theorem dL_law_1080 : decode cL_law 1080 = .ok (.iconst 1, 1) := by decide +kernel
theorem dL_law_1081 : decode cL_law 1081 = .ok (.iadd, 1) := by decide +kernel
theorem dL_law_1082 : decode cL_law 1082 = .ok (.iaload, 1) := by decide +kernel
theorem dL_law_1083 : decode cL_law 1083 = .ok (.invokevirtual 146, 3) := by decide +kernel
theorem dL_law_1086 : decode cL_law 1086 = .ok (.pop, 1) := by decide +kernel
theorem dL_law_1087 : decode cL_law 1087 = .ok (.aload_n 2, 1) := by decide +kernel
theorem dL_law_1088 : decode cL_law 1088 = .ok (.aload_n 0, 1) := by decide +kernel
theorem dL_law_1089 : decode cL_law 1089 = .ok (.iload 4, 2) := by decide +kernel
theorem dL_law_1091 : decode cL_law 1091 = .ok (.iconst 1, 1) := by decide +kernel
theorem dL_law_1092 : decode cL_law 1092 = .ok (.iadd, 1) := by decide +kernel
theorem dL_law_1093 : decode cL_law 1093 = .ok (.iaload, 1) := by decide +kernel
theorem dL_law_1094 : decode cL_law 1094 = .ok (.invokevirtual 149, 3) := by decide +kernel
theorem dL_law_1097 : decode cL_law 1097 = .ok (.pop, 1) := by decide +kernel
theorem dL_law_1098 : decode cL_law 1098 = .ok (.goto 235, 3) := by decide +kernel
theorem dL_law_1101 : decode cL_law 1101 = .ok (.aload_n 1, 1) := by decide +kernel
theorem dL_law_1102 : decode cL_law 1102 = .ok (.aload_n 0, 1) := by decide +kernel
theorem dL_law_1103 : decode cL_law 1103 = .ok (.iload 4, 2) := by decide +kernel
theorem dL_law_1105 : decode cL_law 1105 = .ok (.iconst 1, 1) := by decide +kernel
theorem dL_law_1106 : decode cL_law 1106 = .ok (.iadd, 1) := by decide +kernel
theorem dL_law_1107 : decode cL_law 1107 = .ok (.iaload, 1) := by decide +kernel
theorem dL_law_1108 : decode cL_law 1108 = .ok (.aload_n 0, 1) := by decide +kernel
theorem dL_law_1109 : decode cL_law 1109 = .ok (.iload 4, 2) := by decide +kernel
theorem dL_law_1111 : decode cL_law 1111 = .ok (.iconst 2, 1) := by decide +kernel
theorem dL_law_1112 : decode cL_law 1112 = .ok (.iadd, 1) := by decide +kernel
theorem dL_law_1113 : decode cL_law 1113 = .ok (.iaload, 1) := by decide +kernel
theorem dL_law_1114 : decode cL_law 1114 = .ok (.i2l, 1) := by decide +kernel
theorem dL_law_1115 : decode cL_law 1115 = .ok (.bipush 32, 2) := by decide +kernel
theorem dL_law_1117 : decode cL_law 1117 = .ok (.lshl, 1) := by decide +kernel
theorem dL_law_1118 : decode cL_law 1118 = .ok (.aload_n 0, 1) := by decide +kernel
theorem dL_law_1119 : decode cL_law 1119 = .ok (.iload 4, 2) := by decide +kernel
theorem dL_law_1121 : decode cL_law 1121 = .ok (.iconst 3, 1) := by decide +kernel
theorem dL_law_1122 : decode cL_law 1122 = .ok (.iadd, 1) := by decide +kernel
theorem dL_law_1123 : decode cL_law 1123 = .ok (.iaload, 1) := by decide +kernel
theorem dL_law_1124 : decode cL_law 1124 = .ok (.i2l, 1) := by decide +kernel
theorem dL_law_1125 : decode cL_law 1125 = .ok (.ldc2_w 34, 3) := by decide +kernel
theorem dL_law_1128 : decode cL_law 1128 = .ok (.land, 1) := by decide +kernel
theorem dL_law_1129 : decode cL_law 1129 = .ok (.lor, 1) := by decide +kernel
theorem dL_law_1130 : decode cL_law 1130 = .ok (.aload_n 0, 1) := by decide +kernel
theorem dL_law_1131 : decode cL_law 1131 = .ok (.iload 4, 2) := by decide +kernel
theorem dL_law_1133 : decode cL_law 1133 = .ok (.iconst 4, 1) := by decide +kernel
theorem dL_law_1134 : decode cL_law 1134 = .ok (.iadd, 1) := by decide +kernel
theorem dL_law_1135 : decode cL_law 1135 = .ok (.iaload, 1) := by decide +kernel
theorem dL_law_1136 : decode cL_law 1136 = .ok (.invokevirtual 150, 3) := by decide +kernel
theorem dL_law_1139 : decode cL_law 1139 = .ok (.pop, 1) := by decide +kernel
theorem dL_law_1140 : decode cL_law 1140 = .ok (.aload_n 2, 1) := by decide +kernel
theorem dL_law_1141 : decode cL_law 1141 = .ok (.aload_n 0, 1) := by decide +kernel
theorem dL_law_1142 : decode cL_law 1142 = .ok (.iload 4, 2) := by decide +kernel
theorem dL_law_1144 : decode cL_law 1144 = .ok (.iconst 1, 1) := by decide +kernel
theorem dL_law_1145 : decode cL_law 1145 = .ok (.iadd, 1) := by decide +kernel
theorem dL_law_1146 : decode cL_law 1146 = .ok (.iaload, 1) := by decide +kernel
theorem dL_law_1147 : decode cL_law 1147 = .ok (.aload_n 0, 1) := by decide +kernel
theorem dL_law_1148 : decode cL_law 1148 = .ok (.iload 4, 2) := by decide +kernel
theorem dL_law_1150 : decode cL_law 1150 = .ok (.iconst 2, 1) := by decide +kernel
theorem dL_law_1151 : decode cL_law 1151 = .ok (.iadd, 1) := by decide +kernel
theorem dL_law_1152 : decode cL_law 1152 = .ok (.iaload, 1) := by decide +kernel
theorem dL_law_1153 : decode cL_law 1153 = .ok (.i2l, 1) := by decide +kernel
theorem dL_law_1154 : decode cL_law 1154 = .ok (.bipush 32, 2) := by decide +kernel
theorem dL_law_1156 : decode cL_law 1156 = .ok (.lshl, 1) := by decide +kernel
theorem dL_law_1157 : decode cL_law 1157 = .ok (.aload_n 0, 1) := by decide +kernel
theorem dL_law_1158 : decode cL_law 1158 = .ok (.iload 4, 2) := by decide +kernel
theorem dL_law_1160 : decode cL_law 1160 = .ok (.iconst 3, 1) := by decide +kernel
theorem dL_law_1161 : decode cL_law 1161 = .ok (.iadd, 1) := by decide +kernel
theorem dL_law_1162 : decode cL_law 1162 = .ok (.iaload, 1) := by decide +kernel
theorem dL_law_1163 : decode cL_law 1163 = .ok (.i2l, 1) := by decide +kernel
theorem dL_law_1164 : decode cL_law 1164 = .ok (.ldc2_w 34, 3) := by decide +kernel
theorem dL_law_1167 : decode cL_law 1167 = .ok (.land, 1) := by decide +kernel
theorem dL_law_1168 : decode cL_law 1168 = .ok (.lor, 1) := by decide +kernel
theorem dL_law_1169 : decode cL_law 1169 = .ok (.aload_n 0, 1) := by decide +kernel
theorem dL_law_1170 : decode cL_law 1170 = .ok (.iload 4, 2) := by decide +kernel
theorem dL_law_1172 : decode cL_law 1172 = .ok (.iconst 4, 1) := by decide +kernel
theorem dL_law_1173 : decode cL_law 1173 = .ok (.iadd, 1) := by decide +kernel
theorem dL_law_1174 : decode cL_law 1174 = .ok (.iaload, 1) := by decide +kernel
theorem dL_law_1175 : decode cL_law 1175 = .ok (.invokevirtual 154, 3) := by decide +kernel
theorem dL_law_1178 : decode cL_law 1178 = .ok (.pop, 1) := by decide +kernel
theorem dL_law_1179 : decode cL_law 1179 = .ok (.goto 154, 3) := by decide +kernel
theorem dL_law_1182 : decode cL_law 1182 = .ok (.aload_n 1, 1) := by decide +kernel
theorem dL_law_1183 : decode cL_law 1183 = .ok (.aload_n 0, 1) := by decide +kernel
theorem dL_law_1184 : decode cL_law 1184 = .ok (.iload 4, 2) := by decide +kernel
theorem dL_law_1186 : decode cL_law 1186 = .ok (.iconst 1, 1) := by decide +kernel
theorem dL_law_1187 : decode cL_law 1187 = .ok (.iadd, 1) := by decide +kernel
theorem dL_law_1188 : decode cL_law 1188 = .ok (.iaload, 1) := by decide +kernel
theorem dL_law_1189 : decode cL_law 1189 = .ok (.aload_n 0, 1) := by decide +kernel
theorem dL_law_1190 : decode cL_law 1190 = .ok (.iload 4, 2) := by decide +kernel
theorem dL_law_1192 : decode cL_law 1192 = .ok (.iconst 2, 1) := by decide +kernel
theorem dL_law_1193 : decode cL_law 1193 = .ok (.iadd, 1) := by decide +kernel
theorem dL_law_1194 : decode cL_law 1194 = .ok (.iaload, 1) := by decide +kernel
theorem dL_law_1195 : decode cL_law 1195 = .ok (.invokevirtual 155, 3) := by decide +kernel
theorem dL_law_1198 : decode cL_law 1198 = .ok (.pop, 1) := by decide +kernel
theorem dL_law_1199 : decode cL_law 1199 = .ok (.aload_n 2, 1) := by decide +kernel
theorem dL_law_1200 : decode cL_law 1200 = .ok (.aload_n 0, 1) := by decide +kernel
theorem dL_law_1201 : decode cL_law 1201 = .ok (.iload 4, 2) := by decide +kernel
theorem dL_law_1203 : decode cL_law 1203 = .ok (.iconst 1, 1) := by decide +kernel
theorem dL_law_1204 : decode cL_law 1204 = .ok (.iadd, 1) := by decide +kernel
theorem dL_law_1205 : decode cL_law 1205 = .ok (.iaload, 1) := by decide +kernel
theorem dL_law_1206 : decode cL_law 1206 = .ok (.aload_n 0, 1) := by decide +kernel
theorem dL_law_1207 : decode cL_law 1207 = .ok (.iload 4, 2) := by decide +kernel
theorem dL_law_1209 : decode cL_law 1209 = .ok (.iconst 2, 1) := by decide +kernel
theorem dL_law_1210 : decode cL_law 1210 = .ok (.iadd, 1) := by decide +kernel
theorem dL_law_1211 : decode cL_law 1211 = .ok (.iaload, 1) := by decide +kernel
theorem dL_law_1212 : decode cL_law 1212 = .ok (.invokevirtual 158, 3) := by decide +kernel
theorem dL_law_1215 : decode cL_law 1215 = .ok (.pop, 1) := by decide +kernel
theorem dL_law_1216 : decode cL_law 1216 = .ok (.goto 117, 3) := by decide +kernel
theorem dL_law_1219 : decode cL_law 1219 = .ok (.aload_n 1, 1) := by decide +kernel
theorem dL_law_1220 : decode cL_law 1220 = .ok (.invokevirtual 159, 3) := by decide +kernel
theorem dL_law_1223 : decode cL_law 1223 = .ok (.pop, 1) := by decide +kernel
theorem dL_law_1224 : decode cL_law 1224 = .ok (.aload_n 2, 1) := by decide +kernel
theorem dL_law_1225 : decode cL_law 1225 = .ok (.invokevirtual 162, 3) := by decide +kernel
theorem dL_law_1228 : decode cL_law 1228 = .ok (.pop, 1) := by decide +kernel
theorem dL_law_1229 : decode cL_law 1229 = .ok (.goto 104, 3) := by decide +kernel
theorem dL_law_1232 : decode cL_law 1232 = .ok (.aload_n 1, 1) := by decide +kernel
theorem dL_law_1233 : decode cL_law 1233 = .ok (.invokevirtual 163, 3) := by decide +kernel
theorem dL_law_1236 : decode cL_law 1236 = .ok (.pop, 1) := by decide +kernel
theorem dL_law_1237 : decode cL_law 1237 = .ok (.aload_n 2, 1) := by decide +kernel
theorem dL_law_1238 : decode cL_law 1238 = .ok (.invokevirtual 166, 3) := by decide +kernel
theorem dL_law_1241 : decode cL_law 1241 = .ok (.pop, 1) := by decide +kernel
theorem dL_law_1242 : decode cL_law 1242 = .ok (.goto 91, 3) := by decide +kernel
theorem dL_law_1245 : decode cL_law 1245 = .ok (.aload_n 1, 1) := by decide +kernel
theorem dL_law_1246 : decode cL_law 1246 = .ok (.invokevirtual 167, 3) := by decide +kernel
theorem dL_law_1249 : decode cL_law 1249 = .ok (.pop, 1) := by decide +kernel
theorem dL_law_1250 : decode cL_law 1250 = .ok (.aload_n 2, 1) := by decide +kernel
theorem dL_law_1251 : decode cL_law 1251 = .ok (.invokevirtual 170, 3) := by decide +kernel
theorem dL_law_1254 : decode cL_law 1254 = .ok (.pop, 1) := by decide +kernel
theorem dL_law_1255 : decode cL_law 1255 = .ok (.goto 78, 3) := by decide +kernel
theorem dL_law_1258 : decode cL_law 1258 = .ok (.aload_n 1, 1) := by decide +kernel
theorem dL_law_1259 : decode cL_law 1259 = .ok (.aload_n 0, 1) := by decide +kernel
theorem dL_law_1260 : decode cL_law 1260 = .ok (.iload 4, 2) := by decide +kernel
theorem dL_law_1262 : decode cL_law 1262 = .ok (.iconst 1, 1) := by decide +kernel
theorem dL_law_1263 : decode cL_law 1263 = .ok (.iadd, 1) := by decide +kernel
theorem dL_law_1264 : decode cL_law 1264 = .ok (.iaload, 1) := by decide +kernel
theorem dL_law_1265 : decode cL_law 1265 = .ok (.invokevirtual 171, 3) := by decide +kernel
theorem dL_law_1268 : decode cL_law 1268 = .ok (.pop, 1) := by decide +kernel
theorem dL_law_1269 : decode cL_law 1269 = .ok (.aload_n 2, 1) := by decide +kernel
theorem dL_law_1270 : decode cL_law 1270 = .ok (.aload_n 0, 1) := by decide +kernel
theorem dL_law_1271 : decode cL_law 1271 = .ok (.iload 4, 2) := by decide +kernel
theorem dL_law_1273 : decode cL_law 1273 = .ok (.iconst 1, 1) := by decide +kernel
theorem dL_law_1274 : decode cL_law 1274 = .ok (.iadd, 1) := by decide +kernel
theorem dL_law_1275 : decode cL_law 1275 = .ok (.iaload, 1) := by decide +kernel
theorem dL_law_1276 : decode cL_law 1276 = .ok (.invokevirtual 174, 3) := by decide +kernel
theorem dL_law_1279 : decode cL_law 1279 = .ok (.pop, 1) := by decide +kernel
theorem dL_law_1280 : decode cL_law 1280 = .ok (.goto 53, 3) := by decide +kernel
theorem dL_law_1283 : decode cL_law 1283 = .ok (.aload_n 1, 1) := by decide +kernel
theorem dL_law_1284 : decode cL_law 1284 = .ok (.aload_n 0, 1) := by decide +kernel
theorem dL_law_1285 : decode cL_law 1285 = .ok (.iload 4, 2) := by decide +kernel
theorem dL_law_1287 : decode cL_law 1287 = .ok (.iconst 1, 1) := by decide +kernel
theorem dL_law_1288 : decode cL_law 1288 = .ok (.iadd, 1) := by decide +kernel
theorem dL_law_1289 : decode cL_law 1289 = .ok (.iaload, 1) := by decide +kernel
theorem dL_law_1290 : decode cL_law 1290 = .ok (.invokevirtual 175, 3) := by decide +kernel
theorem dL_law_1293 : decode cL_law 1293 = .ok (.pop, 1) := by decide +kernel
theorem dL_law_1294 : decode cL_law 1294 = .ok (.aload_n 2, 1) := by decide +kernel
theorem dL_law_1295 : decode cL_law 1295 = .ok (.aload_n 0, 1) := by decide +kernel
theorem dL_law_1296 : decode cL_law 1296 = .ok (.iload 4, 2) := by decide +kernel
theorem dL_law_1298 : decode cL_law 1298 = .ok (.iconst 1, 1) := by decide +kernel
theorem dL_law_1299 : decode cL_law 1299 = .ok (.iadd, 1) := by decide +kernel
theorem dL_law_1300 : decode cL_law 1300 = .ok (.iaload, 1) := by decide +kernel
theorem dL_law_1301 : decode cL_law 1301 = .ok (.invokevirtual 178, 3) := by decide +kernel
theorem dL_law_1304 : decode cL_law 1304 = .ok (.pop, 1) := by decide +kernel
theorem dL_law_1305 : decode cL_law 1305 = .ok (.goto 28, 3) := by decide +kernel
theorem dL_law_1308 : decode cL_law 1308 = .ok (.aload_n 1, 1) := by decide +kernel
theorem dL_law_1309 : decode cL_law 1309 = .ok (.aload_n 0, 1) := by decide +kernel
theorem dL_law_1310 : decode cL_law 1310 = .ok (.iload 4, 2) := by decide +kernel
theorem dL_law_1312 : decode cL_law 1312 = .ok (.iconst 1, 1) := by decide +kernel
theorem dL_law_1313 : decode cL_law 1313 = .ok (.iadd, 1) := by decide +kernel
theorem dL_law_1314 : decode cL_law 1314 = .ok (.iaload, 1) := by decide +kernel
theorem dL_law_1315 : decode cL_law 1315 = .ok (.invokevirtual 179, 3) := by decide +kernel
theorem dL_law_1318 : decode cL_law 1318 = .ok (.pop, 1) := by decide +kernel
theorem dL_law_1319 : decode cL_law 1319 = .ok (.aload_n 2, 1) := by decide +kernel
theorem dL_law_1320 : decode cL_law 1320 = .ok (.aload_n 0, 1) := by decide +kernel
theorem dL_law_1321 : decode cL_law 1321 = .ok (.iload 4, 2) := by decide +kernel
theorem dL_law_1323 : decode cL_law 1323 = .ok (.iconst 1, 1) := by decide +kernel
theorem dL_law_1324 : decode cL_law 1324 = .ok (.iadd, 1) := by decide +kernel
theorem dL_law_1325 : decode cL_law 1325 = .ok (.iaload, 1) := by decide +kernel
theorem dL_law_1326 : decode cL_law 1326 = .ok (.invokevirtual 182, 3) := by decide +kernel
theorem dL_law_1329 : decode cL_law 1329 = .ok (.pop, 1) := by decide +kernel
theorem dL_law_1330 : decode cL_law 1330 = .ok (.goto 3, 3) := by decide +kernel
theorem dL_law_1333 : decode cL_law 1333 = .ok (.iinc 4 6, 3) := by decide +kernel
theorem dL_law_1336 : decode cL_law 1336 = .ok (.goto (-1313), 3) := by decide +kernel
theorem dL_law_1339 : decode cL_law 1339 = .ok (.iconst 1, 1) := by decide +kernel
theorem dL_law_1340 : decode cL_law 1340 = .ok (.ireturn, 1) := by decide +kernel
theorem dL_line_0 : decode cL_line 0 = .ok (.aload_n 3, 1) := by decide +kernel
theorem dL_line_1 : decode cL_line 1 = .ok (.iconst 0, 1) := by decide +kernel
theorem dL_line_2 : decode cL_line 2 = .ok (.aload_n 0, 1) := by decide +kernel
theorem dL_line_3 : decode cL_line 3 = .ok (.iload_n 1, 1) := by decide +kernel
theorem dL_line_4 : decode cL_line 4 = .ok (.iload_n 2, 1) := by decide +kernel
theorem dL_line_5 : decode cL_line 5 = .ok (.invokevirtual 7, 3) := by decide +kernel
theorem dL_line_8 : decode cL_line 8 = .ok (.i2l, 1) := by decide +kernel
theorem dL_line_9 : decode cL_line 9 = .ok (.lastore, 1) := by decide +kernel
theorem dL_line_10 : decode cL_line 10 = .ok (.goto 7, 3) := by decide +kernel
theorem dL_line_13 : decode cL_line 13 = .ok (.astore 4, 2) := by decide +kernel
theorem dL_line_15 : decode cL_line 15 = .ok (.iconst 1, 1) := by decide +kernel
theorem dL_line_16 : decode cL_line 16 = .ok (.ireturn, 1) := by decide +kernel
theorem dL_line_17 : decode cL_line 17 = .ok (.iconst 0, 1) := by decide +kernel
theorem dL_line_18 : decode cL_line 18 = .ok (.ireturn, 1) := by decide +kernel
theorem dX0_init_0 : decode cX0_init 0 = .ok (.aload_n 0, 1) := by decide +kernel
theorem dX0_init_1 : decode cX0_init 1 = .ok (.invokespecial 1, 3) := by decide +kernel
theorem dX0_init_4 : decode cX0_init 4 = .ok (.aload_n 0, 1) := by decide +kernel
theorem dX0_init_5 : decode cX0_init 5 = .ok (.bipush 20, 2) := by decide +kernel
theorem dX0_init_7 : decode cX0_init 7 = .ok (.anewarray 9, 3) := by decide +kernel
theorem dX0_init_10 : decode cX0_init 10 = .ok (.putfield 11, 3) := by decide +kernel
theorem dX0_init_13 : decode cX0_init 13 = .ok (.iconst 0, 1) := by decide +kernel
theorem dX0_init_14 : decode cX0_init 14 = .ok (.istore_n 1, 1) := by decide +kernel
theorem dX0_init_15 : decode cX0_init 15 = .ok (.iload_n 1, 1) := by decide +kernel
theorem dX0_init_16 : decode cX0_init 16 = .ok (.bipush 20, 2) := by decide +kernel
theorem dX0_init_18 : decode cX0_init 18 = .ok (.if_icmp .ge 22, 3) := by decide +kernel
theorem dX0_init_21 : decode cX0_init 21 = .ok (.aload_n 0, 1) := by decide +kernel
theorem dX0_init_22 : decode cX0_init 22 = .ok (.getfield 11, 3) := by decide +kernel
theorem dX0_init_25 : decode cX0_init 25 = .ok (.iload_n 1, 1) := by decide +kernel
theorem dX0_init_26 : decode cX0_init 26 = .ok (.new 9, 3) := by decide +kernel
theorem dX0_init_29 : decode cX0_init 29 = .ok (.dup, 1) := by decide +kernel
theorem dX0_init_30 : decode cX0_init 30 = .ok (.invokespecial 15, 3) := by decide +kernel
theorem dX0_init_33 : decode cX0_init 33 = .ok (.aastore, 1) := by decide +kernel
theorem dX0_init_34 : decode cX0_init 34 = .ok (.iinc 1 1, 3) := by decide +kernel
theorem dX0_init_37 : decode cX0_init 37 = .ok (.goto (-22), 3) := by decide +kernel
theorem dX0_init_40 : decode cX0_init 40 = .ok (.return_, 1) := by decide +kernel
theorem dX0_keep_0 : decode cX0_keep 0 = .ok (.aload_n 0, 1) := by decide +kernel
theorem dX0_keep_1 : decode cX0_keep 1 = .ok (.aload_n 0, 1) := by decide +kernel
theorem dX0_keep_2 : decode cX0_keep 2 = .ok (.getfield 16, 3) := by decide +kernel
theorem dX0_keep_5 : decode cX0_keep 5 = .ok (.iconst 1, 1) := by decide +kernel
theorem dX0_keep_6 : decode cX0_keep 6 = .ok (.iadd, 1) := by decide +kernel
theorem dX0_keep_7 : decode cX0_keep 7 = .ok (.bipush 20, 2) := by decide +kernel
theorem dX0_keep_9 : decode cX0_keep 9 = .ok (.irem, 1) := by decide +kernel
theorem dX0_keep_10 : decode cX0_keep 10 = .ok (.putfield 16, 3) := by decide +kernel
theorem dX0_keep_13 : decode cX0_keep 13 = .ok (.aload_n 0, 1) := by decide +kernel
theorem dX0_keep_14 : decode cX0_keep 14 = .ok (.getfield 11, 3) := by decide +kernel
theorem dX0_keep_17 : decode cX0_keep 17 = .ok (.aload_n 0, 1) := by decide +kernel
theorem dX0_keep_18 : decode cX0_keep 18 = .ok (.getfield 16, 3) := by decide +kernel
theorem dX0_keep_21 : decode cX0_keep 21 = .ok (.aaload, 1) := by decide +kernel
theorem dX0_keep_22 : decode cX0_keep 22 = .ok (.aload_n 1, 1) := by decide +kernel
theorem dX0_keep_23 : decode cX0_keep 23 = .ok (.invokevirtual 20, 3) := by decide +kernel
theorem dX0_keep_26 : decode cX0_keep 26 = .ok (.aload_n 0, 1) := by decide +kernel
theorem dX0_keep_27 : decode cX0_keep 27 = .ok (.aload_n 0, 1) := by decide +kernel
theorem dX0_keep_28 : decode cX0_keep 28 = .ok (.getfield 24, 3) := by decide +kernel
theorem dX0_keep_31 : decode cX0_keep 31 = .ok (.iconst 1, 1) := by decide +kernel
theorem dX0_keep_32 : decode cX0_keep 32 = .ok (.iadd, 1) := by decide +kernel
theorem dX0_keep_33 : decode cX0_keep 33 = .ok (.bipush 20, 2) := by decide +kernel
theorem dX0_keep_35 : decode cX0_keep 35 = .ok (.invokestatic 27, 3) := by decide +kernel
theorem dX0_keep_38 : decode cX0_keep 38 = .ok (.putfield 24, 3) := by decide +kernel
theorem dX0_keep_41 : decode cX0_keep 41 = .ok (.return_, 1) := by decide +kernel
theorem dX0_takeBack_0 : decode cX0_takeBack 0 = .ok (.aload_n 0, 1) := by decide +kernel
theorem dX0_takeBack_1 : decode cX0_takeBack 1 = .ok (.getfield 24, 3) := by decide +kernel
theorem dX0_takeBack_4 : decode cX0_takeBack 4 = .ok (.iconst 1, 1) := by decide +kernel
theorem dX0_takeBack_5 : decode cX0_takeBack 5 = .ok (.if_icmp .ge 5, 3) := by decide +kernel
theorem dX0_takeBack_8 : decode cX0_takeBack 8 = .ok (.iconst 0, 1) := by decide +kernel
theorem dX0_takeBack_9 : decode cX0_takeBack 9 = .ok (.ireturn, 1) := by decide +kernel
theorem dX0_takeBack_10 : decode cX0_takeBack 10 = .ok (.aload_n 1, 1) := by decide +kernel
theorem dX0_takeBack_11 : decode cX0_takeBack 11 = .ok (.aload_n 0, 1) := by decide +kernel
theorem dX0_takeBack_12 : decode cX0_takeBack 12 = .ok (.getfield 11, 3) := by decide +kernel
theorem dX0_takeBack_15 : decode cX0_takeBack 15 = .ok (.aload_n 0, 1) := by decide +kernel
theorem dX0_takeBack_16 : decode cX0_takeBack 16 = .ok (.getfield 16, 3) := by decide +kernel
theorem dX0_takeBack_19 : decode cX0_takeBack 19 = .ok (.aaload, 1) := by decide +kernel
theorem dX0_takeBack_20 : decode cX0_takeBack 20 = .ok (.invokevirtual 20, 3) := by decide +kernel
theorem dX0_takeBack_23 : decode cX0_takeBack 23 = .ok (.aload_n 0, 1) := by decide +kernel
theorem dX0_takeBack_24 : decode cX0_takeBack 24 = .ok (.aload_n 0, 1) := by decide +kernel
theorem dX0_takeBack_25 : decode cX0_takeBack 25 = .ok (.getfield 16, 3) := by decide +kernel
theorem dX0_takeBack_28 : decode cX0_takeBack 28 = .ok (.bipush 20, 2) := by decide +kernel
theorem dX0_takeBack_30 : decode cX0_takeBack 30 = .ok (.iadd, 1) := by decide +kernel
theorem dX0_takeBack_31 : decode cX0_takeBack 31 = .ok (.iconst 1, 1) := by decide +kernel
theorem dX0_takeBack_32 : decode cX0_takeBack 32 = .ok (.isub, 1) := by decide +kernel
theorem dX0_takeBack_33 : decode cX0_takeBack 33 = .ok (.bipush 20, 2) := by decide +kernel
theorem dX0_takeBack_35 : decode cX0_takeBack 35 = .ok (.irem, 1) := by decide +kernel
theorem dX0_takeBack_36 : decode cX0_takeBack 36 = .ok (.putfield 16, 3) := by decide +kernel
theorem dX0_takeBack_39 : decode cX0_takeBack 39 = .ok (.aload_n 0, 1) := by decide +kernel
theorem dX0_takeBack_40 : decode cX0_takeBack 40 = .ok (.dup, 1) := by decide +kernel
theorem dX0_takeBack_41 : decode cX0_takeBack 41 = .ok (.getfield 24, 3) := by decide +kernel
theorem dX0_takeBack_44 : decode cX0_takeBack 44 = .ok (.iconst 1, 1) := by decide +kernel
theorem dX0_takeBack_45 : decode cX0_takeBack 45 = .ok (.isub, 1) := by decide +kernel
theorem dX0_takeBack_46 : decode cX0_takeBack 46 = .ok (.putfield 24, 3) := by decide +kernel
theorem dX0_takeBack_49 : decode cX0_takeBack 49 = .ok (.iconst 1, 1) := by decide +kernel
theorem dX0_takeBack_50 : decode cX0_takeBack 50 = .ok (.ireturn, 1) := by decide +kernel
theorem dX10_agreed_0 : decode cX10_agreed 0 = .ok (.aload_n 0, 1) := by decide +kernel
theorem dX10_agreed_1 : decode cX10_agreed 1 = .ok (.getfield 60, 3) := by decide +kernel
theorem dX10_agreed_4 : decode cX10_agreed 4 = .ok (.aload_n 0, 1) := by decide +kernel
theorem dX10_agreed_5 : decode cX10_agreed 5 = .ok (.getfield 23, 3) := by decide +kernel
theorem dX10_agreed_8 : decode cX10_agreed 8 = .ok (.invokevirtual 269, 3) := by decide +kernel
theorem dX10_agreed_11 : decode cX10_agreed 11 = .ok (.ireturn, 1) := by decide +kernel
theorem dX10_asOthers_0 : decode cX10_asOthers 0 = .ok (.aload_n 0, 1) := by decide +kernel
theorem dX10_asOthers_1 : decode cX10_asOthers 1 = .ok (.getfield 108, 3) := by decide +kernel
theorem dX10_asOthers_4 : decode cX10_asOthers 4 = .ok (.ifCond .eq 12, 3) := by decide +kernel
theorem dX10_asOthers_7 : decode cX10_asOthers 7 = .ok (.iload_n 1, 1) := by decide +kernel
theorem dX10_asOthers_8 : decode cX10_asOthers 8 = .ok (.ifCond .lt 8, 3) := by decide +kernel
theorem dX10_asOthers_11 : decode cX10_asOthers 11 = .ok (.iload_n 1, 1) := by decide +kernel
theorem dX10_asOthers_12 : decode cX10_asOthers 12 = .ok (.iconst 3, 1) := by decide +kernel
theorem dX10_asOthers_13 : decode cX10_asOthers 13 = .ok (.if_icmp .le 6, 3) := by decide +kernel
theorem dX10_asOthers_16 : decode cX10_asOthers 16 = .ok (.bipush (-2), 2) := by decide +kernel
theorem dX10_asOthers_18 : decode cX10_asOthers 18 = .ok (.ireturn, 1) := by decide +kernel
theorem dX10_asOthers_19 : decode cX10_asOthers 19 = .ok (.aload_n 0, 1) := by decide +kernel
theorem dX10_asOthers_20 : decode cX10_asOthers 20 = .ok (.getfield 26, 3) := by decide +kernel
theorem dX10_asOthers_23 : decode cX10_asOthers 23 = .ok (.aload_n 0, 1) := by decide +kernel
theorem dX10_asOthers_24 : decode cX10_asOthers 24 = .ok (.getfield 23, 3) := by decide +kernel
theorem dX10_asOthers_27 : decode cX10_asOthers 27 = .ok (.invokevirtual 104, 3) := by decide +kernel
theorem dX10_asOthers_30 : decode cX10_asOthers 30 = .ok (.aload_n 0, 1) := by decide +kernel
theorem dX10_asOthers_31 : decode cX10_asOthers 31 = .ok (.getfield 26, 3) := by decide +kernel
theorem dX10_asOthers_34 : decode cX10_asOthers 34 = .ok (.aload_n 0, 1) := by decide +kernel
theorem dX10_asOthers_35 : decode cX10_asOthers 35 = .ok (.getfield 23, 3) := by decide +kernel
theorem dX10_asOthers_38 : decode cX10_asOthers 38 = .ok (.getfield 145, 3) := by decide +kernel
theorem dX10_asOthers_41 : decode cX10_asOthers 41 = .ok (.ifCond .ne 7, 3) := by decide +kernel
theorem dX10_asOthers_44 : decode cX10_asOthers 44 = .ok (.iconst 1, 1) := by decide +kernel
theorem dX10_asOthers_45 : decode cX10_asOthers 45 = .ok (.goto 4, 3) := by decide +kernel
theorem dX10_asOthers_48 : decode cX10_asOthers 48 = .ok (.iconst 0, 1) := by decide +kernel
theorem dX10_asOthers_49 : decode cX10_asOthers 49 = .ok (.putfield 145, 3) := by decide +kernel
theorem dX10_asOthers_52 : decode cX10_asOthers 52 = .ok (.iload_n 1, 1) := by decide +kernel
theorem dX10_asOthers_53 : decode cX10_asOthers 53 = .ok (.iconst 3, 1) := by decide +kernel
theorem dX10_asOthers_54 : decode cX10_asOthers 54 = .ok (.if_icmp .ne 11, 3) := by decide +kernel
theorem dX10_asOthers_57 : decode cX10_asOthers 57 = .ok (.aload_n 0, 1) := by decide +kernel
theorem dX10_asOthers_58 : decode cX10_asOthers 58 = .ok (.getfield 26, 3) := by decide +kernel
theorem dX10_asOthers_61 : decode cX10_asOthers 61 = .ok (.invokevirtual 297, 3) := by decide +kernel
theorem dX10_asOthers_64 : decode cX10_asOthers 64 = .ok (.ireturn, 1) := by decide +kernel
theorem dX10_asOthers_65 : decode cX10_asOthers 65 = .ok (.aload_n 0, 1) := by decide +kernel
theorem dX10_asOthers_66 : decode cX10_asOthers 66 = .ok (.aload_n 0, 1) := by decide +kernel
theorem dX10_asOthers_67 : decode cX10_asOthers 67 = .ok (.getfield 26, 3) := by decide +kernel
theorem dX10_asOthers_70 : decode cX10_asOthers 70 = .ok (.aload_n 0, 1) := by decide +kernel
theorem dX10_asOthers_71 : decode cX10_asOthers 71 = .ok (.getfield 39, 3) := by decide +kernel
theorem dX10_asOthers_74 : decode cX10_asOthers 74 = .ok (.aload_n 0, 1) := by decide +kernel
theorem dX10_asOthers_75 : decode cX10_asOthers 75 = .ok (.getfield 115, 3) := by decide +kernel
theorem dX10_asOthers_78 : decode cX10_asOthers 78 = .ok (.invokevirtual 347, 3) := by decide +kernel
theorem dX10_asOthers_81 : decode cX10_asOthers 81 = .ok (.iload_n 1, 1) := by decide +kernel
theorem dX10_asOthers_82 : decode cX10_asOthers 82 = .ok (.lookupswitch 46 #[(0, 26), (1, 38)], 26) := by decide +kernel
theorem dX10_asOthers_108 : decode cX10_asOthers 108 = .ok (.aload_n 0, 1) := by decide +kernel
theorem dX10_asOthers_109 : decode cX10_asOthers 109 = .ok (.getfield 67, 3) := by decide +kernel
theorem dX10_asOthers_112 : decode cX10_asOthers 112 = .ok (.aload_n 0, 1) := by decide +kernel
theorem dX10_asOthers_113 : decode cX10_asOthers 113 = .ok (.getfield 26, 3) := by decide +kernel
theorem dX10_asOthers_116 : decode cX10_asOthers 116 = .ok (.invokevirtual 269, 3) := by decide +kernel
theorem dX10_asOthers_119 : decode cX10_asOthers 119 = .ok (.ireturn, 1) := by decide +kernel
theorem dX10_asOthers_120 : decode cX10_asOthers 120 = .ok (.aload_n 0, 1) := by decide +kernel
theorem dX10_asOthers_121 : decode cX10_asOthers 121 = .ok (.getfield 67, 3) := by decide +kernel
theorem dX10_asOthers_124 : decode cX10_asOthers 124 = .ok (.getfield 291, 3) := by decide +kernel
theorem dX10_asOthers_127 : decode cX10_asOthers 127 = .ok (.ireturn, 1) := by decide +kernel
theorem dX10_asOthers_128 : decode cX10_asOthers 128 = .ok (.aload_n 0, 1) := by decide +kernel
theorem dX10_asOthers_129 : decode cX10_asOthers 129 = .ok (.getfield 67, 3) := by decide +kernel
theorem dX10_asOthers_132 : decode cX10_asOthers 132 = .ok (.getfield 211, 3) := by decide +kernel
theorem dX10_asOthers_135 : decode cX10_asOthers 135 = .ok (.ireturn, 1) := by decide +kernel
theorem dX10_back_0 : decode cX10_back 0 = .ok (.aload_n 0, 1) := by decide +kernel
theorem dX10_back_1 : decode cX10_back 1 = .ok (.getfield 112, 3) := by decide +kernel
theorem dX10_back_4 : decode cX10_back 4 = .ok (.ifCond .ne 5, 3) := by decide +kernel
theorem dX10_back_7 : decode cX10_back 7 = .ok (.iconst (-1), 1) := by decide +kernel
theorem dX10_back_8 : decode cX10_back 8 = .ok (.ireturn, 1) := by decide +kernel
theorem dX10_back_9 : decode cX10_back 9 = .ok (.aload_n 0, 1) := by decide +kernel
theorem dX10_back_10 : decode cX10_back 10 = .ok (.getfield 60, 3) := by decide +kernel
theorem dX10_back_13 : decode cX10_back 13 = .ok (.aload_n 0, 1) := by decide +kernel
theorem dX10_back_14 : decode cX10_back 14 = .ok (.getfield 64, 3) := by decide +kernel
theorem dX10_back_17 : decode cX10_back 17 = .ok (.invokevirtual 384, 3) := by decide +kernel
theorem dX10_back_20 : decode cX10_back 20 = .ok (.aload_n 0, 1) := by decide +kernel
theorem dX10_back_21 : decode cX10_back 21 = .ok (.getfield 73, 3) := by decide +kernel
theorem dX10_back_24 : decode cX10_back 24 = .ok (.iconst 0, 1) := by decide +kernel
theorem dX10_back_25 : decode cX10_back 25 = .ok (.putfield 119, 3) := by decide +kernel
theorem dX10_back_28 : decode cX10_back 28 = .ok (.aload_n 0, 1) := by decide +kernel
theorem dX10_back_29 : decode cX10_back 29 = .ok (.getfield 60, 3) := by decide +kernel
theorem dX10_back_32 : decode cX10_back 32 = .ok (.getfield 159, 3) := by decide +kernel
theorem dX10_back_35 : decode cX10_back 35 = .ok (.ireturn, 1) := by decide +kernel
theorem dX10_bit_0 : decode cX10_bit 0 = .ok (.iload_n 0, 1) := by decide +kernel
theorem dX10_bit_1 : decode cX10_bit 1 = .ok (.iload_n 1, 1) := by decide +kernel
theorem dX10_bit_2 : decode cX10_bit 2 = .ok (.iushr, 1) := by decide +kernel
theorem dX10_bit_3 : decode cX10_bit 3 = .ok (.iconst 1, 1) := by decide +kernel
theorem dX10_bit_4 : decode cX10_bit 4 = .ok (.iand, 1) := by decide +kernel
theorem dX10_bit_5 : decode cX10_bit 5 = .ok (.ireturn, 1) := by decide +kernel
theorem dX10_broken_0 : decode cX10_broken 0 = .ok (.aload_n 0, 1) := by decide +kernel
theorem dX10_broken_1 : decode cX10_broken 1 = .ok (.aload_n 0, 1) := by decide +kernel
theorem dX10_broken_2 : decode cX10_broken 2 = .ok (.getfield 60, 3) := by decide +kernel
theorem dX10_broken_5 : decode cX10_broken 5 = .ok (.getfield 155, 3) := by decide +kernel
theorem dX10_broken_8 : decode cX10_broken 8 = .ok (.invokevirtual 309, 3) := by decide +kernel
theorem dX10_broken_11 : decode cX10_broken 11 = .ok (.ifCond .ne 6, 3) := by decide +kernel
theorem dX10_broken_14 : decode cX10_broken 14 = .ok (.bipush (-2), 2) := by decide +kernel
theorem dX10_broken_16 : decode cX10_broken 16 = .ok (.ireturn, 1) := by decide +kernel
theorem dX10_broken_17 : decode cX10_broken 17 = .ok (.aload_n 0, 1) := by decide +kernel
theorem dX10_broken_18 : decode cX10_broken 18 = .ok (.getfield 80, 3) := by decide +kernel
theorem dX10_broken_21 : decode cX10_broken 21 = .ok (.aload_n 0, 1) := by decide +kernel
theorem dX10_broken_22 : decode cX10_broken 22 = .ok (.getfield 23, 3) := by decide +kernel
theorem dX10_broken_25 : decode cX10_broken 25 = .ok (.aload_n 0, 1) := by decide +kernel
theorem dX10_broken_26 : decode cX10_broken 26 = .ok (.getfield 60, 3) := by decide +kernel
theorem dX10_broken_29 : decode cX10_broken 29 = .ok (.getfield 155, 3) := by decide +kernel
theorem dX10_broken_32 : decode cX10_broken 32 = .ok (.aload_n 0, 1) := by decide +kernel
theorem dX10_broken_33 : decode cX10_broken 33 = .ok (.getfield 23, 3) := by decide +kernel
theorem dX10_broken_36 : decode cX10_broken 36 = .ok (.getfield 151, 3) := by decide +kernel
theorem dX10_broken_39 : decode cX10_broken 39 = .ok (.invokevirtual 312, 3) := by decide +kernel
theorem dX10_broken_42 : decode cX10_broken 42 = .ok (.aload_n 0, 1) := by decide +kernel
theorem dX10_broken_43 : decode cX10_broken 43 = .ok (.getfield 80, 3) := by decide +kernel
theorem dX10_broken_46 : decode cX10_broken 46 = .ok (.aload_n 0, 1) := by decide +kernel
theorem dX10_broken_47 : decode cX10_broken 47 = .ok (.getfield 60, 3) := by decide +kernel
theorem dX10_broken_50 : decode cX10_broken 50 = .ok (.getfield 154, 3) := by decide +kernel
theorem dX10_broken_53 : decode cX10_broken 53 = .ok (.invokevirtual 316, 3) := by decide +kernel
theorem dX10_broken_56 : decode cX10_broken 56 = .ok (.ireturn, 1) := by decide +kernel
theorem dX10_brokenPlan_0 : decode cX10_brokenPlan 0 = .ok (.aload_n 0, 1) := by decide +kernel
theorem dX10_brokenPlan_1 : decode cX10_brokenPlan 1 = .ok (.invokevirtual 325, 3) := by decide +kernel
theorem dX10_brokenPlan_4 : decode cX10_brokenPlan 4 = .ok (.istore_n 2, 1) := by decide +kernel
theorem dX10_brokenPlan_5 : decode cX10_brokenPlan 5 = .ok (.iload_n 2, 1) := by decide +kernel
theorem dX10_brokenPlan_6 : decode cX10_brokenPlan 6 = .ok (.ifCond .ge 5, 3) := by decide +kernel
theorem dX10_brokenPlan_9 : decode cX10_brokenPlan 9 = .ok (.iload_n 2, 1) := by decide +kernel
theorem dX10_brokenPlan_10 : decode cX10_brokenPlan 10 = .ok (.ireturn, 1) := by decide +kernel
theorem dX10_brokenPlan_11 : decode cX10_brokenPlan 11 = .ok (.aload_n 0, 1) := by decide +kernel
theorem dX10_brokenPlan_12 : decode cX10_brokenPlan 12 = .ok (.getfield 84, 3) := by decide +kernel
theorem dX10_brokenPlan_15 : decode cX10_brokenPlan 15 = .ok (.iconst 0, 1) := by decide +kernel
theorem dX10_brokenPlan_16 : decode cX10_brokenPlan 16 = .ok (.putfield 91, 3) := by decide +kernel
theorem dX10_brokenPlan_19 : decode cX10_brokenPlan 19 = .ok (.iconst 0, 1) := by decide +kernel
theorem dX10_brokenPlan_20 : decode cX10_brokenPlan 20 = .ok (.istore_n 3, 1) := by decide +kernel
theorem dX10_brokenPlan_21 : decode cX10_brokenPlan 21 = .ok (.iload_n 3, 1) := by decide +kernel
theorem dX10_brokenPlan_22 : decode cX10_brokenPlan 22 = .ok (.aload_n 0, 1) := by decide +kernel
theorem dX10_brokenPlan_23 : decode cX10_brokenPlan 23 = .ok (.getfield 23, 3) := by decide +kernel
theorem dX10_brokenPlan_26 : decode cX10_brokenPlan 26 = .ok (.getfield 151, 3) := by decide +kernel
theorem dX10_brokenPlan_29 : decode cX10_brokenPlan 29 = .ok (.if_icmp .ge 38, 3) := by decide +kernel
theorem dX10_brokenPlan_32 : decode cX10_brokenPlan 32 = .ok (.iconst 0, 1) := by decide +kernel
theorem dX10_brokenPlan_33 : decode cX10_brokenPlan 33 = .ok (.istore 4, 2) := by decide +kernel
theorem dX10_brokenPlan_35 : decode cX10_brokenPlan 35 = .ok (.iload 4, 2) := by decide +kernel
theorem dX10_brokenPlan_37 : decode cX10_brokenPlan 37 = .ok (.aload_n 0, 1) := by decide +kernel
theorem dX10_brokenPlan_38 : decode cX10_brokenPlan 38 = .ok (.getfield 23, 3) := by decide +kernel
theorem dX10_brokenPlan_41 : decode cX10_brokenPlan 41 = .ok (.invokevirtual 169, 3) := by decide +kernel
theorem dX10_brokenPlan_44 : decode cX10_brokenPlan 44 = .ok (.if_icmp .ge 17, 3) := by decide +kernel
theorem dX10_brokenPlan_47 : decode cX10_brokenPlan 47 = .ok (.aload_n 0, 1) := by decide +kernel
theorem dX10_brokenPlan_48 : decode cX10_brokenPlan 48 = .ok (.iload_n 3, 1) := by decide +kernel
theorem dX10_brokenPlan_49 : decode cX10_brokenPlan 49 = .ok (.iload 4, 2) := by decide +kernel
theorem dX10_brokenPlan_51 : decode cX10_brokenPlan 51 = .ok (.iload_n 2, 1) := by decide +kernel
theorem dX10_brokenPlan_52 : decode cX10_brokenPlan 52 = .ok (.invokevirtual 328, 3) := by decide +kernel
theorem dX10_brokenPlan_55 : decode cX10_brokenPlan 55 = .ok (.iinc 4 1, 3) := by decide +kernel
theorem dX10_brokenPlan_58 : decode cX10_brokenPlan 58 = .ok (.goto (-23), 3) := by decide +kernel
theorem dX10_brokenPlan_61 : decode cX10_brokenPlan 61 = .ok (.iinc 3 1, 3) := by decide +kernel
theorem dX10_brokenPlan_64 : decode cX10_brokenPlan 64 = .ok (.goto (-43), 3) := by decide +kernel
theorem dX10_brokenPlan_67 : decode cX10_brokenPlan 67 = .ok (.aload_n 0, 1) := by decide +kernel
theorem dX10_brokenPlan_68 : decode cX10_brokenPlan 68 = .ok (.iload_n 1, 1) := by decide +kernel
theorem dX10_brokenPlan_69 : decode cX10_brokenPlan 69 = .ok (.invokevirtual 332, 3) := by decide +kernel
theorem dX10_brokenPlan_72 : decode cX10_brokenPlan 72 = .ok (.ireturn, 1) := by decide +kernel
theorem dX10_brokenStarts_0 : decode cX10_brokenStarts 0 = .ok (.iload_n 1, 1) := by decide +kernel
theorem dX10_brokenStarts_1 : decode cX10_brokenStarts 1 = .ok (.ifCond .lt 22, 3) := by decide +kernel
theorem dX10_brokenStarts_4 : decode cX10_brokenStarts 4 = .ok (.iload_n 1, 1) := by decide +kernel
theorem dX10_brokenStarts_5 : decode cX10_brokenStarts 5 = .ok (.iconst 1, 1) := by decide +kernel
theorem dX10_brokenStarts_6 : decode cX10_brokenStarts 6 = .ok (.if_icmp .gt 17, 3) := by decide +kernel
theorem dX10_brokenStarts_9 : decode cX10_brokenStarts 9 = .ok (.aload_n 0, 1) := by decide +kernel
theorem dX10_brokenStarts_10 : decode cX10_brokenStarts 10 = .ok (.aload_n 0, 1) := by decide +kernel
theorem dX10_brokenStarts_11 : decode cX10_brokenStarts 11 = .ok (.getfield 60, 3) := by decide +kernel
theorem dX10_brokenStarts_14 : decode cX10_brokenStarts 14 = .ok (.getfield 155, 3) := by decide +kernel
theorem dX10_brokenStarts_17 : decode cX10_brokenStarts 17 = .ok (.invokevirtual 309, 3) := by decide +kernel
theorem dX10_brokenStarts_20 : decode cX10_brokenStarts 20 = .ok (.ifCond .ne 6, 3) := by decide +kernel
theorem dX10_brokenStarts_23 : decode cX10_brokenStarts 23 = .ok (.bipush (-2), 2) := by decide +kernel
theorem dX10_brokenStarts_25 : decode cX10_brokenStarts 25 = .ok (.ireturn, 1) := by decide +kernel
theorem dX10_brokenStarts_26 : decode cX10_brokenStarts 26 = .ok (.iload_n 1, 1) := by decide +kernel
theorem dX10_brokenStarts_27 : decode cX10_brokenStarts 27 = .ok (.ifCond .ne 17, 3) := by decide +kernel
theorem dX10_brokenStarts_30 : decode cX10_brokenStarts 30 = .ok (.aload_n 0, 1) := by decide +kernel
theorem dX10_brokenStarts_31 : decode cX10_brokenStarts 31 = .ok (.aload_n 0, 1) := by decide +kernel
theorem dX10_brokenStarts_32 : decode cX10_brokenStarts 32 = .ok (.getfield 60, 3) := by decide +kernel
theorem dX10_brokenStarts_35 : decode cX10_brokenStarts 35 = .ok (.getfield 155, 3) := by decide +kernel
theorem dX10_brokenStarts_38 : decode cX10_brokenStarts 38 = .ok (.invokevirtual 319, 3) := by decide +kernel
theorem dX10_brokenStarts_41 : decode cX10_brokenStarts 41 = .ok (.goto 14, 3) := by decide +kernel
theorem dX10_brokenStarts_44 : decode cX10_brokenStarts 44 = .ok (.aload_n 0, 1) := by decide +kernel
theorem dX10_brokenStarts_45 : decode cX10_brokenStarts 45 = .ok (.aload_n 0, 1) := by decide +kernel
theorem dX10_brokenStarts_46 : decode cX10_brokenStarts 46 = .ok (.getfield 60, 3) := by decide +kernel
theorem dX10_brokenStarts_49 : decode cX10_brokenStarts 49 = .ok (.getfield 155, 3) := by decide +kernel
theorem dX10_brokenStarts_52 : decode cX10_brokenStarts 52 = .ok (.invokevirtual 322, 3) := by decide +kernel
theorem dX10_brokenStarts_55 : decode cX10_brokenStarts 55 = .ok (.ireturn, 1) := by decide +kernel
theorem dX10_byChance_0 : decode cX10_byChance 0 = .ok (.aload_n 0, 1) := by decide +kernel
theorem dX10_byChance_1 : decode cX10_byChance 1 = .ok (.getfield 108, 3) := by decide +kernel
theorem dX10_byChance_4 : decode cX10_byChance 4 = .ok (.ifCond .eq 26, 3) := by decide +kernel
theorem dX10_byChance_7 : decode cX10_byChance 7 = .ok (.iload_n 1, 1) := by decide +kernel
theorem dX10_byChance_8 : decode cX10_byChance 8 = .ok (.iconst 1, 1) := by decide +kernel
theorem dX10_byChance_9 : decode cX10_byChance 9 = .ok (.if_icmp .lt 21, 3) := by decide +kernel
theorem dX10_byChance_12 : decode cX10_byChance 12 = .ok (.iload_n 1, 1) := by decide +kernel
theorem dX10_byChance_13 : decode cX10_byChance 13 = .ok (.sipush 200, 3) := by decide +kernel
theorem dX10_byChance_16 : decode cX10_byChance 16 = .ok (.if_icmp .gt 14, 3) := by decide +kernel
theorem dX10_byChance_19 : decode cX10_byChance 19 = .ok (.iload 4, 2) := by decide +kernel
theorem dX10_byChance_21 : decode cX10_byChance 21 = .ok (.ifCond .lt 9, 3) := by decide +kernel
theorem dX10_byChance_24 : decode cX10_byChance 24 = .ok (.iload 4, 2) := by decide +kernel
theorem dX10_byChance_26 : decode cX10_byChance 26 = .ok (.iconst 3, 1) := by decide +kernel
theorem dX10_byChance_27 : decode cX10_byChance 27 = .ok (.if_icmp .le 6, 3) := by decide +kernel
theorem dX10_byChance_30 : decode cX10_byChance 30 = .ok (.bipush (-2), 2) := by decide +kernel
theorem dX10_byChance_32 : decode cX10_byChance 32 = .ok (.ireturn, 1) := by decide +kernel
theorem dX10_byChance_33 : decode cX10_byChance 33 = .ok (.iconst 0, 1) := by decide +kernel
theorem dX10_byChance_34 : decode cX10_byChance 34 = .ok (.istore 5, 2) := by decide +kernel
theorem dX10_byChance_36 : decode cX10_byChance 36 = .ok (.iconst 0, 1) := by decide +kernel
theorem dX10_byChance_37 : decode cX10_byChance 37 = .ok (.istore 6, 2) := by decide +kernel
theorem dX10_byChance_39 : decode cX10_byChance 39 = .ok (.iconst (-1), 1) := by decide +kernel
theorem dX10_byChance_40 : decode cX10_byChance 40 = .ok (.istore 7, 2) := by decide +kernel
theorem dX10_byChance_42 : decode cX10_byChance 42 = .ok (.iconst 0, 1) := by decide +kernel
theorem dX10_byChance_43 : decode cX10_byChance 43 = .ok (.istore 8, 2) := by decide +kernel
theorem dX10_byChance_45 : decode cX10_byChance 45 = .ok (.iconst 0, 1) := by decide +kernel
theorem dX10_byChance_46 : decode cX10_byChance 46 = .ok (.istore 9, 2) := by decide +kernel
theorem dX10_byChance_48 : decode cX10_byChance 48 = .ok (.iload 9, 2) := by decide +kernel
theorem dX10_byChance_50 : decode cX10_byChance 50 = .ok (.iload_n 1, 1) := by decide +kernel
theorem dX10_byChance_51 : decode cX10_byChance 51 = .ok (.if_icmp .ge 107, 3) := by decide +kernel
theorem dX10_byChance_54 : decode cX10_byChance 54 = .ok (.aload_n 0, 1) := by decide +kernel
theorem dX10_byChance_55 : decode cX10_byChance 55 = .ok (.aload_n 0, 1) := by decide +kernel
theorem dX10_byChance_56 : decode cX10_byChance 56 = .ok (.getfield 23, 3) := by decide +kernel
theorem dX10_byChance_59 : decode cX10_byChance 59 = .ok (.aload_n 0, 1) := by decide +kernel
theorem dX10_byChance_60 : decode cX10_byChance 60 = .ok (.getfield 46, 3) := by decide +kernel
theorem dX10_byChance_63 : decode cX10_byChance 63 = .ok (.lload_n 2, 1) := by decide +kernel
theorem dX10_byChance_64 : decode cX10_byChance 64 = .ok (.iload 9, 2) := by decide +kernel
theorem dX10_byChance_66 : decode cX10_byChance 66 = .ok (.i2l, 1) := by decide +kernel
theorem dX10_byChance_67 : decode cX10_byChance 67 = .ok (.ladd, 1) := by decide +kernel
theorem dX10_byChance_68 : decode cX10_byChance 68 = .ok (.invokevirtual 347, 3) := by decide +kernel
theorem dX10_byChance_71 : decode cX10_byChance 71 = .ok (.iload 6, 2) := by decide +kernel
theorem dX10_byChance_73 : decode cX10_byChance 73 = .ok (.aload_n 0, 1) := by decide +kernel
theorem dX10_byChance_74 : decode cX10_byChance 74 = .ok (.getfield 67, 3) := by decide +kernel
theorem dX10_byChance_77 : decode cX10_byChance 77 = .ok (.getfield 291, 3) := by decide +kernel
theorem dX10_byChance_80 : decode cX10_byChance 80 = .ok (.iadd, 1) := by decide +kernel
theorem dX10_byChance_81 : decode cX10_byChance 81 = .ok (.istore 6, 2) := by decide +kernel
theorem dX10_byChance_83 : decode cX10_byChance 83 = .ok (.aload_n 0, 1) := by decide +kernel
theorem dX10_byChance_84 : decode cX10_byChance 84 = .ok (.getfield 67, 3) := by decide +kernel
theorem dX10_byChance_87 : decode cX10_byChance 87 = .ok (.aload_n 0, 1) := by decide +kernel
theorem dX10_byChance_88 : decode cX10_byChance 88 = .ok (.getfield 23, 3) := by decide +kernel
theorem dX10_byChance_91 : decode cX10_byChance 91 = .ok (.aload_n 0, 1) := by decide +kernel
theorem dX10_byChance_92 : decode cX10_byChance 92 = .ok (.getfield 67, 3) := by decide +kernel
theorem dX10_byChance_95 : decode cX10_byChance 95 = .ok (.getfield 211, 3) := by decide +kernel
theorem dX10_byChance_98 : decode cX10_byChance 98 = .ok (.invokevirtual 276, 3) := by decide +kernel
theorem dX10_byChance_101 : decode cX10_byChance 101 = .ok (.ifCond .eq 41, 3) := by decide +kernel
theorem dX10_byChance_104 : decode cX10_byChance 104 = .ok (.iinc 5 1, 3) := by decide +kernel
theorem dX10_byChance_107 : decode cX10_byChance 107 = .ok (.iload 8, 2) := by decide +kernel
theorem dX10_byChance_109 : decode cX10_byChance 109 = .ok (.aload_n 0, 1) := by decide +kernel
theorem dX10_byChance_110 : decode cX10_byChance 110 = .ok (.getfield 67, 3) := by decide +kernel
theorem dX10_byChance_113 : decode cX10_byChance 113 = .ok (.getfield 211, 3) := by decide +kernel
theorem dX10_byChance_116 : decode cX10_byChance 116 = .ok (.aload_n 0, 1) := by decide +kernel
theorem dX10_byChance_117 : decode cX10_byChance 117 = .ok (.getfield 67, 3) := by decide +kernel
theorem dX10_byChance_120 : decode cX10_byChance 120 = .ok (.aload_n 0, 1) := by decide +kernel
theorem dX10_byChance_121 : decode cX10_byChance 121 = .ok (.getfield 23, 3) := by decide +kernel
theorem dX10_byChance_124 : decode cX10_byChance 124 = .ok (.invokevirtual 280, 3) := by decide +kernel
theorem dX10_byChance_127 : decode cX10_byChance 127 = .ok (.iand, 1) := by decide +kernel
theorem dX10_byChance_128 : decode cX10_byChance 128 = .ok (.ifCond .eq 7, 3) := by decide +kernel
theorem dX10_byChance_131 : decode cX10_byChance 131 = .ok (.iconst 1, 1) := by decide +kernel
theorem dX10_byChance_132 : decode cX10_byChance 132 = .ok (.goto 4, 3) := by decide +kernel
theorem dX10_byChance_135 : decode cX10_byChance 135 = .ok (.iconst 0, 1) := by decide +kernel
theorem dX10_byChance_136 : decode cX10_byChance 136 = .ok (.iadd, 1) := by decide +kernel
theorem dX10_byChance_137 : decode cX10_byChance 137 = .ok (.istore 8, 2) := by decide +kernel
theorem dX10_byChance_139 : decode cX10_byChance 139 = .ok (.goto 13, 3) := by decide +kernel
theorem dX10_byChance_142 : decode cX10_byChance 142 = .ok (.iload 7, 2) := by decide +kernel
theorem dX10_byChance_144 : decode cX10_byChance 144 = .ok (.iconst (-1), 1) := by decide +kernel
theorem dX10_byChance_145 : decode cX10_byChance 145 = .ok (.if_icmp .ne 7, 3) := by decide +kernel
theorem dX10_byChance_148 : decode cX10_byChance 148 = .ok (.iload 9, 2) := by decide +kernel
theorem dX10_byChance_150 : decode cX10_byChance 150 = .ok (.istore 7, 2) := by decide +kernel
theorem dX10_byChance_152 : decode cX10_byChance 152 = .ok (.iinc 9 1, 3) := by decide +kernel
theorem dX10_byChance_155 : decode cX10_byChance 155 = .ok (.goto (-107), 3) := by decide +kernel
theorem dX10_byChance_158 : decode cX10_byChance 158 = .ok (.iload 4, 2) := by decide +kernel
theorem dX10_byChance_160 : decode cX10_byChance 160 = .ok (.tableswitch 37 0 2 #[28, 31, 34], 28) := by decide +kernel
theorem dX10_byChance_188 : decode cX10_byChance 188 = .ok (.iload 5, 2) := by decide +kernel
theorem dX10_byChance_190 : decode cX10_byChance 190 = .ok (.ireturn, 1) := by decide +kernel
theorem dX10_byChance_191 : decode cX10_byChance 191 = .ok (.iload 6, 2) := by decide +kernel
theorem dX10_byChance_193 : decode cX10_byChance 193 = .ok (.ireturn, 1) := by decide +kernel
theorem dX10_byChance_194 : decode cX10_byChance 194 = .ok (.iload 7, 2) := by decide +kernel
theorem dX10_byChance_196 : decode cX10_byChance 196 = .ok (.ireturn, 1) := by decide +kernel
theorem dX10_byChance_197 : decode cX10_byChance 197 = .ok (.iload 8, 2) := by decide +kernel
theorem dX10_byChance_199 : decode cX10_byChance 199 = .ok (.ireturn, 1) := by decide +kernel
theorem dX10_byteOfText_0 : decode cX10_byteOfText 0 = .ok (.iload_n 1, 1) := by decide +kernel
theorem dX10_byteOfText_1 : decode cX10_byteOfText 1 = .ok (.iconst (-1), 1) := by decide +kernel
theorem dX10_byteOfText_2 : decode cX10_byteOfText 2 = .ok (.if_icmp .ne 11, 3) := by decide +kernel
theorem dX10_byteOfText_5 : decode cX10_byteOfText 5 = .ok (.aload_n 0, 1) := by decide +kernel
theorem dX10_byteOfText_6 : decode cX10_byteOfText 6 = .ok (.getfield 84, 3) := by decide +kernel
theorem dX10_byteOfText_9 : decode cX10_byteOfText 9 = .ok (.getfield 91, 3) := by decide +kernel
theorem dX10_byteOfText_12 : decode cX10_byteOfText 12 = .ok (.ireturn, 1) := by decide +kernel
theorem dX10_byteOfText_13 : decode cX10_byteOfText 13 = .ok (.iload_n 1, 1) := by decide +kernel
theorem dX10_byteOfText_14 : decode cX10_byteOfText 14 = .ok (.ifCond .lt 14, 3) := by decide +kernel
theorem dX10_byteOfText_17 : decode cX10_byteOfText 17 = .ok (.iload_n 1, 1) := by decide +kernel
theorem dX10_byteOfText_18 : decode cX10_byteOfText 18 = .ok (.aload_n 0, 1) := by decide +kernel
theorem dX10_byteOfText_19 : decode cX10_byteOfText 19 = .ok (.getfield 84, 3) := by decide +kernel
theorem dX10_byteOfText_22 : decode cX10_byteOfText 22 = .ok (.getfield 91, 3) := by decide +kernel
theorem dX10_byteOfText_25 : decode cX10_byteOfText 25 = .ok (.if_icmp .lt 7, 3) := by decide +kernel
theorem dX10_byteOfText_28 : decode cX10_byteOfText 28 = .ok (.iconst (-1), 1) := by decide +kernel
theorem dX10_byteOfText_29 : decode cX10_byteOfText 29 = .ok (.goto 12, 3) := by decide +kernel
theorem dX10_byteOfText_32 : decode cX10_byteOfText 32 = .ok (.aload_n 0, 1) := by decide +kernel
theorem dX10_byteOfText_33 : decode cX10_byteOfText 33 = .ok (.getfield 84, 3) := by decide +kernel
theorem dX10_byteOfText_36 : decode cX10_byteOfText 36 = .ok (.getfield 422, 3) := by decide +kernel
theorem dX10_byteOfText_39 : decode cX10_byteOfText 39 = .ok (.iload_n 1, 1) := by decide +kernel
theorem dX10_byteOfText_40 : decode cX10_byteOfText 40 = .ok (.iaload, 1) := by decide +kernel
theorem dX10_byteOfText_41 : decode cX10_byteOfText 41 = .ok (.ireturn, 1) := by decide +kernel
theorem dX10_canBreak_0 : decode cX10_canBreak 0 = .ok (.iload_n 1, 1) := by decide +kernel
theorem dX10_canBreak_1 : decode cX10_canBreak 1 = .ok (.ifCond .lt 26, 3) := by decide +kernel
theorem dX10_canBreak_4 : decode cX10_canBreak 4 = .ok (.iload_n 1, 1) := by decide +kernel
theorem dX10_canBreak_5 : decode cX10_canBreak 5 = .ok (.iconst 1, 1) := by decide +kernel
theorem dX10_canBreak_6 : decode cX10_canBreak 6 = .ok (.if_icmp .gt 21, 3) := by decide +kernel
theorem dX10_canBreak_9 : decode cX10_canBreak 9 = .ok (.aload_n 0, 1) := by decide +kernel
theorem dX10_canBreak_10 : decode cX10_canBreak 10 = .ok (.getfield 108, 3) := by decide +kernel
theorem dX10_canBreak_13 : decode cX10_canBreak 13 = .ok (.ifCond .eq 14, 3) := by decide +kernel
theorem dX10_canBreak_16 : decode cX10_canBreak 16 = .ok (.aload_n 0, 1) := by decide +kernel
theorem dX10_canBreak_17 : decode cX10_canBreak 17 = .ok (.getfield 23, 3) := by decide +kernel
theorem dX10_canBreak_20 : decode cX10_canBreak 20 = .ok (.getfield 132, 3) := by decide +kernel
theorem dX10_canBreak_23 : decode cX10_canBreak 23 = .ok (.iconst 5, 1) := by decide +kernel
theorem dX10_canBreak_24 : decode cX10_canBreak 24 = .ok (.if_icmp .le 6, 3) := by decide +kernel
theorem dX10_canBreak_27 : decode cX10_canBreak 27 = .ok (.bipush (-2), 2) := by decide +kernel
theorem dX10_canBreak_29 : decode cX10_canBreak 29 = .ok (.ireturn, 1) := by decide +kernel
theorem dX10_canBreak_30 : decode cX10_canBreak 30 = .ok (.iconst 0, 1) := by decide +kernel
theorem dX10_canBreak_31 : decode cX10_canBreak 31 = .ok (.istore_n 2, 1) := by decide +kernel
theorem dX10_canBreak_32 : decode cX10_canBreak 32 = .ok (.iconst (-1), 1) := by decide +kernel
theorem dX10_canBreak_33 : decode cX10_canBreak 33 = .ok (.istore_n 3, 1) := by decide +kernel
theorem dX10_canBreak_34 : decode cX10_canBreak 34 = .ok (.iconst 0, 1) := by decide +kernel
theorem dX10_canBreak_35 : decode cX10_canBreak 35 = .ok (.istore 4, 2) := by decide +kernel
theorem dX10_canBreak_37 : decode cX10_canBreak 37 = .ok (.iload 4, 2) := by decide +kernel
theorem dX10_canBreak_39 : decode cX10_canBreak 39 = .ok (.aload_n 0, 1) := by decide +kernel
theorem dX10_canBreak_40 : decode cX10_canBreak 40 = .ok (.getfield 23, 3) := by decide +kernel
theorem dX10_canBreak_43 : decode cX10_canBreak 43 = .ok (.invokevirtual 205, 3) := by decide +kernel
theorem dX10_canBreak_46 : decode cX10_canBreak 46 = .ok (.if_icmp .ge 67, 3) := by decide +kernel
theorem dX10_canBreak_49 : decode cX10_canBreak 49 = .ok (.iload 4, 2) := by decide +kernel
theorem dX10_canBreak_51 : decode cX10_canBreak 51 = .ok (.invokestatic 283, 3) := by decide +kernel
theorem dX10_canBreak_54 : decode cX10_canBreak 54 = .ok (.aload_n 0, 1) := by decide +kernel
theorem dX10_canBreak_55 : decode cX10_canBreak 55 = .ok (.getfield 60, 3) := by decide +kernel
theorem dX10_canBreak_58 : decode cX10_canBreak 58 = .ok (.getfield 155, 3) := by decide +kernel
theorem dX10_canBreak_61 : decode cX10_canBreak 61 = .ok (.invokestatic 283, 3) := by decide +kernel
theorem dX10_canBreak_64 : decode cX10_canBreak 64 = .ok (.if_icmp .eq 6, 3) := by decide +kernel
theorem dX10_canBreak_67 : decode cX10_canBreak 67 = .ok (.goto 40, 3) := by decide +kernel
theorem dX10_canBreak_70 : decode cX10_canBreak 70 = .ok (.aload_n 0, 1) := by decide +kernel
theorem dX10_canBreak_71 : decode cX10_canBreak 71 = .ok (.iload 4, 2) := by decide +kernel
theorem dX10_canBreak_73 : decode cX10_canBreak 73 = .ok (.invokevirtual 309, 3) := by decide +kernel
theorem dX10_canBreak_76 : decode cX10_canBreak 76 = .ok (.ifCond .ne 6, 3) := by decide +kernel
theorem dX10_canBreak_79 : decode cX10_canBreak 79 = .ok (.bipush (-2), 2) := by decide +kernel
theorem dX10_canBreak_81 : decode cX10_canBreak 81 = .ok (.ireturn, 1) := by decide +kernel
theorem dX10_canBreak_82 : decode cX10_canBreak 82 = .ok (.aload_n 0, 1) := by decide +kernel
theorem dX10_canBreak_83 : decode cX10_canBreak 83 = .ok (.iload 4, 2) := by decide +kernel
theorem dX10_canBreak_85 : decode cX10_canBreak 85 = .ok (.invokevirtual 322, 3) := by decide +kernel
theorem dX10_canBreak_88 : decode cX10_canBreak 88 = .ok (.iconst (-1), 1) := by decide +kernel
theorem dX10_canBreak_89 : decode cX10_canBreak 89 = .ok (.if_icmp .eq 18, 3) := by decide +kernel
theorem dX10_canBreak_92 : decode cX10_canBreak 92 = .ok (.iinc 2 1, 3) := by decide +kernel
theorem dX10_canBreak_95 : decode cX10_canBreak 95 = .ok (.iload_n 3, 1) := by decide +kernel
theorem dX10_canBreak_96 : decode cX10_canBreak 96 = .ok (.iconst (-1), 1) := by decide +kernel
theorem dX10_canBreak_97 : decode cX10_canBreak 97 = .ok (.if_icmp .ne 8, 3) := by decide +kernel
theorem dX10_canBreak_100 : decode cX10_canBreak 100 = .ok (.iload 4, 2) := by decide +kernel
theorem dX10_canBreak_102 : decode cX10_canBreak 102 = .ok (.goto 4, 3) := by decide +kernel
theorem dX10_canBreak_105 : decode cX10_canBreak 105 = .ok (.iload_n 3, 1) := by decide +kernel
theorem dX10_canBreak_106 : decode cX10_canBreak 106 = .ok (.istore_n 3, 1) := by decide +kernel
theorem dX10_canBreak_107 : decode cX10_canBreak 107 = .ok (.iinc 4 1, 3) := by decide +kernel
theorem dX10_canBreak_110 : decode cX10_canBreak 110 = .ok (.goto (-73), 3) := by decide +kernel
theorem dX10_canBreak_113 : decode cX10_canBreak 113 = .ok (.iload_n 1, 1) := by decide +kernel
theorem dX10_canBreak_114 : decode cX10_canBreak 114 = .ok (.ifCond .ne 7, 3) := by decide +kernel
theorem dX10_canBreak_117 : decode cX10_canBreak 117 = .ok (.iload_n 2, 1) := by decide +kernel
theorem dX10_canBreak_118 : decode cX10_canBreak 118 = .ok (.goto 4, 3) := by decide +kernel
theorem dX10_canBreak_121 : decode cX10_canBreak 121 = .ok (.iload_n 3, 1) := by decide +kernel
theorem dX10_canBreak_122 : decode cX10_canBreak 122 = .ok (.ireturn, 1) := by decide +kernel
theorem dX10_changesOfTrueOnes_0 : decode cX10_changesOfTrueOnes 0 = .ok (.iconst 0, 1) := by decide +kernel
theorem dX10_changesOfTrueOnes_1 : decode cX10_changesOfTrueOnes 1 = .ok (.istore_n 1, 1) := by decide +kernel
theorem dX10_changesOfTrueOnes_2 : decode cX10_changesOfTrueOnes 2 = .ok (.aload_n 0, 1) := by decide +kernel
theorem dX10_changesOfTrueOnes_3 : decode cX10_changesOfTrueOnes 3 = .ok (.getfield 60, 3) := by decide +kernel
theorem dX10_changesOfTrueOnes_6 : decode cX10_changesOfTrueOnes 6 = .ok (.getfield 154, 3) := by decide +kernel
theorem dX10_changesOfTrueOnes_9 : decode cX10_changesOfTrueOnes 9 = .ok (.istore_n 2, 1) := by decide +kernel
theorem dX10_changesOfTrueOnes_10 : decode cX10_changesOfTrueOnes 10 = .ok (.iconst 0, 1) := by decide +kernel
theorem dX10_changesOfTrueOnes_11 : decode cX10_changesOfTrueOnes 11 = .ok (.istore_n 3, 1) := by decide +kernel
theorem dX10_changesOfTrueOnes_12 : decode cX10_changesOfTrueOnes 12 = .ok (.iload_n 3, 1) := by decide +kernel
theorem dX10_changesOfTrueOnes_13 : decode cX10_changesOfTrueOnes 13 = .ok (.aload_n 0, 1) := by decide +kernel
theorem dX10_changesOfTrueOnes_14 : decode cX10_changesOfTrueOnes 14 = .ok (.invokevirtual 273, 3) := by decide +kernel
theorem dX10_changesOfTrueOnes_17 : decode cX10_changesOfTrueOnes 17 = .ok (.if_icmp .ge 48, 3) := by decide +kernel
theorem dX10_changesOfTrueOnes_20 : decode cX10_changesOfTrueOnes 20 = .ok (.iload_n 1, 1) := by decide +kernel
theorem dX10_changesOfTrueOnes_21 : decode cX10_changesOfTrueOnes 21 = .ok (.iload_n 2, 1) := by decide +kernel
theorem dX10_changesOfTrueOnes_22 : decode cX10_changesOfTrueOnes 22 = .ok (.aload_n 0, 1) := by decide +kernel
theorem dX10_changesOfTrueOnes_23 : decode cX10_changesOfTrueOnes 23 = .ok (.getfield 60, 3) := by decide +kernel
theorem dX10_changesOfTrueOnes_26 : decode cX10_changesOfTrueOnes 26 = .ok (.getfield 244, 3) := by decide +kernel
theorem dX10_changesOfTrueOnes_29 : decode cX10_changesOfTrueOnes 29 = .ok (.iload_n 3, 1) := by decide +kernel
theorem dX10_changesOfTrueOnes_30 : decode cX10_changesOfTrueOnes 30 = .ok (.iaload, 1) := by decide +kernel
theorem dX10_changesOfTrueOnes_31 : decode cX10_changesOfTrueOnes 31 = .ok (.ixor, 1) := by decide +kernel
theorem dX10_changesOfTrueOnes_32 : decode cX10_changesOfTrueOnes 32 = .ok (.aload_n 0, 1) := by decide +kernel
theorem dX10_changesOfTrueOnes_33 : decode cX10_changesOfTrueOnes 33 = .ok (.getfield 60, 3) := by decide +kernel
theorem dX10_changesOfTrueOnes_36 : decode cX10_changesOfTrueOnes 36 = .ok (.aload_n 0, 1) := by decide +kernel
theorem dX10_changesOfTrueOnes_37 : decode cX10_changesOfTrueOnes 37 = .ok (.getfield 23, 3) := by decide +kernel
theorem dX10_changesOfTrueOnes_40 : decode cX10_changesOfTrueOnes 40 = .ok (.invokevirtual 280, 3) := by decide +kernel
theorem dX10_changesOfTrueOnes_43 : decode cX10_changesOfTrueOnes 43 = .ok (.iand, 1) := by decide +kernel
theorem dX10_changesOfTrueOnes_44 : decode cX10_changesOfTrueOnes 44 = .ok (.invokestatic 283, 3) := by decide +kernel
theorem dX10_changesOfTrueOnes_47 : decode cX10_changesOfTrueOnes 47 = .ok (.iadd, 1) := by decide +kernel
theorem dX10_changesOfTrueOnes_48 : decode cX10_changesOfTrueOnes 48 = .ok (.istore_n 1, 1) := by decide +kernel
theorem dX10_changesOfTrueOnes_49 : decode cX10_changesOfTrueOnes 49 = .ok (.aload_n 0, 1) := by decide +kernel
theorem dX10_changesOfTrueOnes_50 : decode cX10_changesOfTrueOnes 50 = .ok (.getfield 60, 3) := by decide +kernel
theorem dX10_changesOfTrueOnes_53 : decode cX10_changesOfTrueOnes 53 = .ok (.getfield 244, 3) := by decide +kernel
theorem dX10_changesOfTrueOnes_56 : decode cX10_changesOfTrueOnes 56 = .ok (.iload_n 3, 1) := by decide +kernel
theorem dX10_changesOfTrueOnes_57 : decode cX10_changesOfTrueOnes 57 = .ok (.iaload, 1) := by decide +kernel
theorem dX10_changesOfTrueOnes_58 : decode cX10_changesOfTrueOnes 58 = .ok (.istore_n 2, 1) := by decide +kernel
theorem dX10_changesOfTrueOnes_59 : decode cX10_changesOfTrueOnes 59 = .ok (.iinc 3 1, 3) := by decide +kernel
theorem dX10_changesOfTrueOnes_62 : decode cX10_changesOfTrueOnes 62 = .ok (.goto (-50), 3) := by decide +kernel
theorem dX10_changesOfTrueOnes_65 : decode cX10_changesOfTrueOnes 65 = .ok (.iload_n 1, 1) := by decide +kernel
theorem dX10_changesOfTrueOnes_66 : decode cX10_changesOfTrueOnes 66 = .ok (.ireturn, 1) := by decide +kernel
theorem dX10_council_0 : decode cX10_council 0 = .ok (.aload_n 0, 1) := by decide +kernel
theorem dX10_council_1 : decode cX10_council 1 = .ok (.getfield 19, 3) := by decide +kernel
theorem dX10_council_4 : decode cX10_council 4 = .ok (.aload_n 0, 1) := by decide +kernel
theorem dX10_council_5 : decode cX10_council 5 = .ok (.getfield 10, 3) := by decide +kernel
theorem dX10_council_8 : decode cX10_council 8 = .ok (.invokevirtual 99, 3) := by decide +kernel
theorem dX10_council_11 : decode cX10_council 11 = .ok (.iconst (-1), 1) := by decide +kernel
theorem dX10_council_12 : decode cX10_council 12 = .ok (.if_icmp .eq 5, 3) := by decide +kernel
theorem dX10_council_15 : decode cX10_council 15 = .ok (.iconst (-1), 1) := by decide +kernel
theorem dX10_council_16 : decode cX10_council 16 = .ok (.ireturn, 1) := by decide +kernel
theorem dX10_council_17 : decode cX10_council 17 = .ok (.aload_n 0, 1) := by decide +kernel
theorem dX10_council_18 : decode cX10_council 18 = .ok (.getfield 10, 3) := by decide +kernel
theorem dX10_council_21 : decode cX10_council 21 = .ok (.iconst 0, 1) := by decide +kernel
theorem dX10_council_22 : decode cX10_council 22 = .ok (.putfield 91, 3) := by decide +kernel
theorem dX10_council_25 : decode cX10_council 25 = .ok (.aload_n 0, 1) := by decide +kernel
theorem dX10_council_26 : decode cX10_council 26 = .ok (.getfield 23, 3) := by decide +kernel
theorem dX10_council_29 : decode cX10_council 29 = .ok (.aload_n 0, 1) := by decide +kernel
theorem dX10_council_30 : decode cX10_council 30 = .ok (.getfield 19, 3) := by decide +kernel
theorem dX10_council_33 : decode cX10_council 33 = .ok (.invokevirtual 104, 3) := by decide +kernel
theorem dX10_council_36 : decode cX10_council 36 = .ok (.aload_n 0, 1) := by decide +kernel
theorem dX10_council_37 : decode cX10_council 37 = .ok (.iconst 1, 1) := by decide +kernel
theorem dX10_council_38 : decode cX10_council 38 = .ok (.putfield 108, 3) := by decide +kernel
theorem dX10_council_41 : decode cX10_council 41 = .ok (.aload_n 0, 1) := by decide +kernel
theorem dX10_council_42 : decode cX10_council 42 = .ok (.iconst 0, 1) := by decide +kernel
theorem dX10_council_43 : decode cX10_council 43 = .ok (.putfield 112, 3) := by decide +kernel
theorem dX10_council_46 : decode cX10_council 46 = .ok (.aload_n 0, 1) := by decide +kernel
theorem dX10_council_47 : decode cX10_council 47 = .ok (.lload_n 1, 1) := by decide +kernel
theorem dX10_council_48 : decode cX10_council 48 = .ok (.putfield 115, 3) := by decide +kernel
theorem dX10_council_51 : decode cX10_council 51 = .ok (.aload_n 0, 1) := by decide +kernel
theorem dX10_council_52 : decode cX10_council 52 = .ok (.getfield 73, 3) := by decide +kernel
theorem dX10_council_55 : decode cX10_council 55 = .ok (.iconst 0, 1) := by decide +kernel
theorem dX10_council_56 : decode cX10_council 56 = .ok (.putfield 119, 3) := by decide +kernel
theorem dX10_council_59 : decode cX10_council 59 = .ok (.aload_n 0, 1) := by decide +kernel
theorem dX10_council_60 : decode cX10_council 60 = .ok (.getfield 60, 3) := by decide +kernel
theorem dX10_council_63 : decode cX10_council 63 = .ok (.aload_n 0, 1) := by decide +kernel
theorem dX10_council_64 : decode cX10_council 64 = .ok (.getfield 23, 3) := by decide +kernel
theorem dX10_council_67 : decode cX10_council 67 = .ok (.getfield 122, 3) := by decide +kernel
theorem dX10_council_70 : decode cX10_council 70 = .ok (.aload_n 0, 1) := by decide +kernel
theorem dX10_council_71 : decode cX10_council 71 = .ok (.getfield 23, 3) := by decide +kernel
theorem dX10_council_74 : decode cX10_council 74 = .ok (.getfield 125, 3) := by decide +kernel
theorem dX10_council_77 : decode cX10_council 77 = .ok (.lload_n 1, 1) := by decide +kernel
theorem dX10_council_78 : decode cX10_council 78 = .ok (.invokevirtual 128, 3) := by decide +kernel
theorem dX10_council_81 : decode cX10_council 81 = .ok (.aload_n 0, 1) := by decide +kernel
theorem dX10_council_82 : decode cX10_council 82 = .ok (.getfield 23, 3) := by decide +kernel
theorem dX10_council_85 : decode cX10_council 85 = .ok (.getfield 132, 3) := by decide +kernel
theorem dX10_council_88 : decode cX10_council 88 = .ok (.ireturn, 1) := by decide +kernel
theorem dX10_count_0 : decode cX10_count 0 = .ok (.iload_n 1, 1) := by decide +kernel
theorem dX10_count_1 : decode cX10_count 1 = .ok (.tableswitch 51 0 2 #[27, 35, 43], 27) := by decide +kernel
theorem dX10_count_28 : decode cX10_count 28 = .ok (.aload_n 0, 1) := by decide +kernel
theorem dX10_count_29 : decode cX10_count 29 = .ok (.getfield 10, 3) := by decide +kernel
theorem dX10_count_32 : decode cX10_count 32 = .ok (.getfield 91, 3) := by decide +kernel
theorem dX10_count_35 : decode cX10_count 35 = .ok (.ireturn, 1) := by decide +kernel
theorem dX10_count_36 : decode cX10_count 36 = .ok (.aload_n 0, 1) := by decide +kernel
theorem dX10_count_37 : decode cX10_count 37 = .ok (.getfield 73, 3) := by decide +kernel
theorem dX10_count_40 : decode cX10_count 40 = .ok (.getfield 119, 3) := by decide +kernel
theorem dX10_count_43 : decode cX10_count 43 = .ok (.ireturn, 1) := by decide +kernel
theorem dX10_count_44 : decode cX10_count 44 = .ok (.aload_n 0, 1) := by decide +kernel
theorem dX10_count_45 : decode cX10_count 45 = .ok (.getfield 60, 3) := by decide +kernel
theorem dX10_count_48 : decode cX10_count 48 = .ok (.getfield 159, 3) := by decide +kernel
theorem dX10_count_51 : decode cX10_count 51 = .ok (.ireturn, 1) := by decide +kernel
theorem dX10_count_52 : decode cX10_count 52 = .ok (.iconst (-1), 1) := by decide +kernel
theorem dX10_count_53 : decode cX10_count 53 = .ok (.ireturn, 1) := by decide +kernel
theorem dX10_countBrokenStarts_0 : decode cX10_countBrokenStarts 0 = .ok (.iconst 0, 1) := by decide +kernel
theorem dX10_countBrokenStarts_1 : decode cX10_countBrokenStarts 1 = .ok (.istore_n 2, 1) := by decide +kernel
theorem dX10_countBrokenStarts_2 : decode cX10_countBrokenStarts 2 = .ok (.aload_n 0, 1) := by decide +kernel
theorem dX10_countBrokenStarts_3 : decode cX10_countBrokenStarts 3 = .ok (.getfield 80, 3) := by decide +kernel
theorem dX10_countBrokenStarts_6 : decode cX10_countBrokenStarts 6 = .ok (.aload_n 0, 1) := by decide +kernel
theorem dX10_countBrokenStarts_7 : decode cX10_countBrokenStarts 7 = .ok (.getfield 23, 3) := by decide +kernel
theorem dX10_countBrokenStarts_10 : decode cX10_countBrokenStarts 10 = .ok (.iload_n 1, 1) := by decide +kernel
theorem dX10_countBrokenStarts_11 : decode cX10_countBrokenStarts 11 = .ok (.aload_n 0, 1) := by decide +kernel
theorem dX10_countBrokenStarts_12 : decode cX10_countBrokenStarts 12 = .ok (.getfield 23, 3) := by decide +kernel
theorem dX10_countBrokenStarts_15 : decode cX10_countBrokenStarts 15 = .ok (.getfield 151, 3) := by decide +kernel
theorem dX10_countBrokenStarts_18 : decode cX10_countBrokenStarts 18 = .ok (.invokevirtual 312, 3) := by decide +kernel
theorem dX10_countBrokenStarts_21 : decode cX10_countBrokenStarts 21 = .ok (.iconst 0, 1) := by decide +kernel
theorem dX10_countBrokenStarts_22 : decode cX10_countBrokenStarts 22 = .ok (.istore_n 3, 1) := by decide +kernel
theorem dX10_countBrokenStarts_23 : decode cX10_countBrokenStarts 23 = .ok (.iload_n 3, 1) := by decide +kernel
theorem dX10_countBrokenStarts_24 : decode cX10_countBrokenStarts 24 = .ok (.aload_n 0, 1) := by decide +kernel
theorem dX10_countBrokenStarts_25 : decode cX10_countBrokenStarts 25 = .ok (.getfield 23, 3) := by decide +kernel
theorem dX10_countBrokenStarts_28 : decode cX10_countBrokenStarts 28 = .ok (.invokevirtual 205, 3) := by decide +kernel
theorem dX10_countBrokenStarts_31 : decode cX10_countBrokenStarts 31 = .ok (.if_icmp .gt 28, 3) := by decide +kernel
theorem dX10_countBrokenStarts_34 : decode cX10_countBrokenStarts 34 = .ok (.iload_n 2, 1) := by decide +kernel
theorem dX10_countBrokenStarts_35 : decode cX10_countBrokenStarts 35 = .ok (.aload_n 0, 1) := by decide +kernel
theorem dX10_countBrokenStarts_36 : decode cX10_countBrokenStarts 36 = .ok (.getfield 80, 3) := by decide +kernel
theorem dX10_countBrokenStarts_39 : decode cX10_countBrokenStarts 39 = .ok (.iload_n 3, 1) := by decide +kernel
theorem dX10_countBrokenStarts_40 : decode cX10_countBrokenStarts 40 = .ok (.invokevirtual 335, 3) := by decide +kernel
theorem dX10_countBrokenStarts_43 : decode cX10_countBrokenStarts 43 = .ok (.ifCond .eq 7, 3) := by decide +kernel
theorem dX10_countBrokenStarts_46 : decode cX10_countBrokenStarts 46 = .ok (.iconst 1, 1) := by decide +kernel
theorem dX10_countBrokenStarts_47 : decode cX10_countBrokenStarts 47 = .ok (.goto 4, 3) := by decide +kernel
theorem dX10_countBrokenStarts_50 : decode cX10_countBrokenStarts 50 = .ok (.iconst 0, 1) := by decide +kernel
theorem dX10_countBrokenStarts_51 : decode cX10_countBrokenStarts 51 = .ok (.iadd, 1) := by decide +kernel
theorem dX10_countBrokenStarts_52 : decode cX10_countBrokenStarts 52 = .ok (.istore_n 2, 1) := by decide +kernel
theorem dX10_countBrokenStarts_53 : decode cX10_countBrokenStarts 53 = .ok (.iinc 3 1, 3) := by decide +kernel
theorem dX10_countBrokenStarts_56 : decode cX10_countBrokenStarts 56 = .ok (.goto (-33), 3) := by decide +kernel
theorem dX10_countBrokenStarts_59 : decode cX10_countBrokenStarts 59 = .ok (.iload_n 2, 1) := by decide +kernel
theorem dX10_countBrokenStarts_60 : decode cX10_countBrokenStarts 60 = .ok (.ireturn, 1) := by decide +kernel
theorem dX10_end_0 : decode cX10_end 0 = .ok (.iload_n 1, 1) := by decide +kernel
theorem dX10_end_1 : decode cX10_end 1 = .ok (.ifCond .lt 14, 3) := by decide +kernel
theorem dX10_end_4 : decode cX10_end 4 = .ok (.iload_n 1, 1) := by decide +kernel
theorem dX10_end_5 : decode cX10_end 5 = .ok (.aload_n 0, 1) := by decide +kernel
theorem dX10_end_6 : decode cX10_end 6 = .ok (.getfield 10, 3) := by decide +kernel
theorem dX10_end_9 : decode cX10_end 9 = .ok (.getfield 91, 3) := by decide +kernel
theorem dX10_end_12 : decode cX10_end 12 = .ok (.if_icmp .le 5, 3) := by decide +kernel
theorem dX10_end_15 : decode cX10_end 15 = .ok (.iconst 0, 1) := by decide +kernel
theorem dX10_end_16 : decode cX10_end 16 = .ok (.ireturn, 1) := by decide +kernel
theorem dX10_end_17 : decode cX10_end 17 = .ok (.aload_n 0, 1) := by decide +kernel
theorem dX10_end_18 : decode cX10_end 18 = .ok (.getfield 10, 3) := by decide +kernel
theorem dX10_end_21 : decode cX10_end 21 = .ok (.iload_n 1, 1) := by decide +kernel
theorem dX10_end_22 : decode cX10_end 22 = .ok (.putfield 91, 3) := by decide +kernel
theorem dX10_end_25 : decode cX10_end 25 = .ok (.iconst 1, 1) := by decide +kernel
theorem dX10_end_26 : decode cX10_end 26 = .ok (.ireturn, 1) := by decide +kernel
theorem dX10_falseOnes_0 : decode cX10_falseOnes 0 = .ok (.aload_n 0, 1) := by decide +kernel
theorem dX10_falseOnes_1 : decode cX10_falseOnes 1 = .ok (.iload_n 1, 1) := by decide +kernel
theorem dX10_falseOnes_2 : decode cX10_falseOnes 2 = .ok (.aload_n 0, 1) := by decide +kernel
theorem dX10_falseOnes_3 : decode cX10_falseOnes 3 = .ok (.getfield 23, 3) := by decide +kernel
theorem dX10_falseOnes_6 : decode cX10_falseOnes 6 = .ok (.invokevirtual 205, 3) := by decide +kernel
theorem dX10_falseOnes_9 : decode cX10_falseOnes 9 = .ok (.iconst 1, 1) := by decide +kernel
theorem dX10_falseOnes_10 : decode cX10_falseOnes 10 = .ok (.isub, 1) := by decide +kernel
theorem dX10_falseOnes_11 : decode cX10_falseOnes 11 = .ok (.invokevirtual 208, 3) := by decide +kernel
theorem dX10_falseOnes_14 : decode cX10_falseOnes 14 = .ok (.istore_n 2, 1) := by decide +kernel
theorem dX10_falseOnes_15 : decode cX10_falseOnes 15 = .ok (.iload_n 2, 1) := by decide +kernel
theorem dX10_falseOnes_16 : decode cX10_falseOnes 16 = .ok (.iconst (-1), 1) := by decide +kernel
theorem dX10_falseOnes_17 : decode cX10_falseOnes 17 = .ok (.if_icmp .eq 9, 3) := by decide +kernel
theorem dX10_falseOnes_20 : decode cX10_falseOnes 20 = .ok (.aload_n 0, 1) := by decide +kernel
theorem dX10_falseOnes_21 : decode cX10_falseOnes 21 = .ok (.iload_n 2, 1) := by decide +kernel
theorem dX10_falseOnes_22 : decode cX10_falseOnes 22 = .ok (.invokevirtual 198, 3) := by decide +kernel
theorem dX10_falseOnes_25 : decode cX10_falseOnes 25 = .ok (.ireturn, 1) := by decide +kernel
theorem dX10_falseOnes_26 : decode cX10_falseOnes 26 = .ok (.aload_n 0, 1) := by decide +kernel
theorem dX10_falseOnes_27 : decode cX10_falseOnes 27 = .ok (.getfield 60, 3) := by decide +kernel
theorem dX10_falseOnes_30 : decode cX10_falseOnes 30 = .ok (.getfield 155, 3) := by decide +kernel
theorem dX10_falseOnes_33 : decode cX10_falseOnes 33 = .ok (.istore_n 3, 1) := by decide +kernel
theorem dX10_falseOnes_34 : decode cX10_falseOnes 34 = .ok (.aload_n 0, 1) := by decide +kernel
theorem dX10_falseOnes_35 : decode cX10_falseOnes 35 = .ok (.getfield 73, 3) := by decide +kernel
theorem dX10_falseOnes_38 : decode cX10_falseOnes 38 = .ok (.aload_n 0, 1) := by decide +kernel
theorem dX10_falseOnes_39 : decode cX10_falseOnes 39 = .ok (.getfield 60, 3) := by decide +kernel
theorem dX10_falseOnes_42 : decode cX10_falseOnes 42 = .ok (.invokevirtual 186, 3) := by decide +kernel
theorem dX10_falseOnes_45 : decode cX10_falseOnes 45 = .ok (.aload_n 0, 1) := by decide +kernel
theorem dX10_falseOnes_46 : decode cX10_falseOnes 46 = .ok (.getfield 60, 3) := by decide +kernel
theorem dX10_falseOnes_49 : decode cX10_falseOnes 49 = .ok (.iload_n 1, 1) := by decide +kernel
theorem dX10_falseOnes_50 : decode cX10_falseOnes 50 = .ok (.putfield 155, 3) := by decide +kernel
theorem dX10_falseOnes_53 : decode cX10_falseOnes 53 = .ok (.aload_n 0, 1) := by decide +kernel
theorem dX10_falseOnes_54 : decode cX10_falseOnes 54 = .ok (.getfield 60, 3) := by decide +kernel
theorem dX10_falseOnes_57 : decode cX10_falseOnes 57 = .ok (.invokevirtual 214, 3) := by decide +kernel
theorem dX10_falseOnes_60 : decode cX10_falseOnes 60 = .ok (.iload_n 3, 1) := by decide +kernel
theorem dX10_falseOnes_61 : decode cX10_falseOnes 61 = .ok (.ireturn, 1) := by decide +kernel
theorem dX10_fault_0 : decode cX10_fault 0 = .ok (.iload_n 1, 1) := by decide +kernel
theorem dX10_fault_1 : decode cX10_fault 1 = .ok (.lookupswitch 51 #[(0, 27), (1, 39)], 27) := by decide +kernel
theorem dX10_fault_28 : decode cX10_fault 28 = .ok (.aload_n 0, 1) := by decide +kernel
theorem dX10_fault_29 : decode cX10_fault 29 = .ok (.getfield 19, 3) := by decide +kernel
theorem dX10_fault_32 : decode cX10_fault 32 = .ok (.aload_n 0, 1) := by decide +kernel
theorem dX10_fault_33 : decode cX10_fault 33 = .ok (.getfield 10, 3) := by decide +kernel
theorem dX10_fault_36 : decode cX10_fault 36 = .ok (.invokevirtual 99, 3) := by decide +kernel
theorem dX10_fault_39 : decode cX10_fault 39 = .ok (.ireturn, 1) := by decide +kernel
theorem dX10_fault_40 : decode cX10_fault 40 = .ok (.aload_n 0, 1) := by decide +kernel
theorem dX10_fault_41 : decode cX10_fault 41 = .ok (.getfield 32, 3) := by decide +kernel
theorem dX10_fault_44 : decode cX10_fault 44 = .ok (.aload_n 0, 1) := by decide +kernel
theorem dX10_fault_45 : decode cX10_fault 45 = .ok (.getfield 10, 3) := by decide +kernel
theorem dX10_fault_48 : decode cX10_fault 48 = .ok (.invokevirtual 103, 3) := by decide +kernel
theorem dX10_fault_51 : decode cX10_fault 51 = .ok (.ireturn, 1) := by decide +kernel
theorem dX10_fault_52 : decode cX10_fault 52 = .ok (.bipush (-2), 2) := by decide +kernel
theorem dX10_fault_54 : decode cX10_fault 54 = .ok (.ireturn, 1) := by decide +kernel
theorem dX10_feed_0 : decode cX10_feed 0 = .ok (.aload_n 0, 1) := by decide +kernel
theorem dX10_feed_1 : decode cX10_feed 1 = .ok (.getfield 10, 3) := by decide +kernel
theorem dX10_feed_4 : decode cX10_feed 4 = .ok (.getfield 91, 3) := by decide +kernel
theorem dX10_feed_7 : decode cX10_feed 7 = .ok (.sipush 500, 3) := by decide +kernel
theorem dX10_feed_10 : decode cX10_feed 10 = .ok (.if_icmp .le 5, 3) := by decide +kernel
theorem dX10_feed_13 : decode cX10_feed 13 = .ok (.iconst (-1), 1) := by decide +kernel
theorem dX10_feed_14 : decode cX10_feed 14 = .ok (.ireturn, 1) := by decide +kernel
theorem dX10_feed_15 : decode cX10_feed 15 = .ok (.aload_n 0, 1) := by decide +kernel
theorem dX10_feed_16 : decode cX10_feed 16 = .ok (.getfield 10, 3) := by decide +kernel
theorem dX10_feed_19 : decode cX10_feed 19 = .ok (.iload_n 1, 1) := by decide +kernel
theorem dX10_feed_20 : decode cX10_feed 20 = .ok (.invokevirtual 95, 3) := by decide +kernel
theorem dX10_feed_23 : decode cX10_feed 23 = .ok (.aload_n 0, 1) := by decide +kernel
theorem dX10_feed_24 : decode cX10_feed 24 = .ok (.getfield 10, 3) := by decide +kernel
theorem dX10_feed_27 : decode cX10_feed 27 = .ok (.iload_n 2, 1) := by decide +kernel
theorem dX10_feed_28 : decode cX10_feed 28 = .ok (.invokevirtual 95, 3) := by decide +kernel
theorem dX10_feed_31 : decode cX10_feed 31 = .ok (.aload_n 0, 1) := by decide +kernel
theorem dX10_feed_32 : decode cX10_feed 32 = .ok (.getfield 10, 3) := by decide +kernel
theorem dX10_feed_35 : decode cX10_feed 35 = .ok (.iload_n 3, 1) := by decide +kernel
theorem dX10_feed_36 : decode cX10_feed 36 = .ok (.invokevirtual 95, 3) := by decide +kernel
theorem dX10_feed_39 : decode cX10_feed 39 = .ok (.aload_n 0, 1) := by decide +kernel
theorem dX10_feed_40 : decode cX10_feed 40 = .ok (.getfield 10, 3) := by decide +kernel
theorem dX10_feed_43 : decode cX10_feed 43 = .ok (.iload 4, 2) := by decide +kernel
theorem dX10_feed_45 : decode cX10_feed 45 = .ok (.invokevirtual 95, 3) := by decide +kernel
theorem dX10_feed_48 : decode cX10_feed 48 = .ok (.aload_n 0, 1) := by decide +kernel
theorem dX10_feed_49 : decode cX10_feed 49 = .ok (.getfield 10, 3) := by decide +kernel
theorem dX10_feed_52 : decode cX10_feed 52 = .ok (.iload 5, 2) := by decide +kernel
theorem dX10_feed_54 : decode cX10_feed 54 = .ok (.invokevirtual 95, 3) := by decide +kernel
theorem dX10_feed_57 : decode cX10_feed 57 = .ok (.aload_n 0, 1) := by decide +kernel
theorem dX10_feed_58 : decode cX10_feed 58 = .ok (.getfield 10, 3) := by decide +kernel
theorem dX10_feed_61 : decode cX10_feed 61 = .ok (.getfield 91, 3) := by decide +kernel
theorem dX10_feed_64 : decode cX10_feed 64 = .ok (.ireturn, 1) := by decide +kernel
theorem dX10_free_0 : decode cX10_free 0 = .ok (.aload_n 0, 1) := by decide +kernel
theorem dX10_free_1 : decode cX10_free 1 = .ok (.getfield 108, 3) := by decide +kernel
theorem dX10_free_4 : decode cX10_free 4 = .ok (.ifCond .eq 17, 3) := by decide +kernel
theorem dX10_free_7 : decode cX10_free 7 = .ok (.aload_n 0, 1) := by decide +kernel
theorem dX10_free_8 : decode cX10_free 8 = .ok (.aload_n 0, 1) := by decide +kernel
theorem dX10_free_9 : decode cX10_free 9 = .ok (.getfield 60, 3) := by decide +kernel
theorem dX10_free_12 : decode cX10_free 12 = .ok (.getfield 155, 3) := by decide +kernel
theorem dX10_free_15 : decode cX10_free 15 = .ok (.invokevirtual 306, 3) := by decide +kernel
theorem dX10_free_18 : decode cX10_free 18 = .ok (.goto 4, 3) := by decide +kernel
theorem dX10_free_21 : decode cX10_free 21 = .ok (.iconst (-1), 1) := by decide +kernel
theorem dX10_free_22 : decode cX10_free 22 = .ok (.ireturn, 1) := by decide +kernel
theorem dX10_freeBefore_0 : decode cX10_freeBefore 0 = .ok (.aload_n 0, 1) := by decide +kernel
theorem dX10_freeBefore_1 : decode cX10_freeBefore 1 = .ok (.getfield 60, 3) := by decide +kernel
theorem dX10_freeBefore_4 : decode cX10_freeBefore 4 = .ok (.getfield 155, 3) := by decide +kernel
theorem dX10_freeBefore_7 : decode cX10_freeBefore 7 = .ok (.invokestatic 283, 3) := by decide +kernel
theorem dX10_freeBefore_10 : decode cX10_freeBefore 10 = .ok (.istore_n 3, 1) := by decide +kernel
theorem dX10_freeBefore_11 : decode cX10_freeBefore 11 = .ok (.aload_n 0, 1) := by decide +kernel
theorem dX10_freeBefore_12 : decode cX10_freeBefore 12 = .ok (.getfield 23, 3) := by decide +kernel
theorem dX10_freeBefore_15 : decode cX10_freeBefore 15 = .ok (.aload_n 0, 1) := by decide +kernel
theorem dX10_freeBefore_16 : decode cX10_freeBefore 16 = .ok (.getfield 60, 3) := by decide +kernel
theorem dX10_freeBefore_19 : decode cX10_freeBefore 19 = .ok (.getfield 155, 3) := by decide +kernel
theorem dX10_freeBefore_22 : decode cX10_freeBefore 22 = .ok (.iload_n 1, 1) := by decide +kernel
theorem dX10_freeBefore_23 : decode cX10_freeBefore 23 = .ok (.invokevirtual 351, 3) := by decide +kernel
theorem dX10_freeBefore_26 : decode cX10_freeBefore 26 = .ok (.iload_n 2, 1) := by decide +kernel
theorem dX10_freeBefore_27 : decode cX10_freeBefore 27 = .ok (.iload_n 3, 1) := by decide +kernel
theorem dX10_freeBefore_28 : decode cX10_freeBefore 28 = .ok (.imul, 1) := by decide +kernel
theorem dX10_freeBefore_29 : decode cX10_freeBefore 29 = .ok (.aload_n 0, 1) := by decide +kernel
theorem dX10_freeBefore_30 : decode cX10_freeBefore 30 = .ok (.getfield 23, 3) := by decide +kernel
theorem dX10_freeBefore_33 : decode cX10_freeBefore 33 = .ok (.getfield 132, 3) := by decide +kernel
theorem dX10_freeBefore_36 : decode cX10_freeBefore 36 = .ok (.iload_n 3, 1) := by decide +kernel
theorem dX10_freeBefore_37 : decode cX10_freeBefore 37 = .ok (.isub, 1) := by decide +kernel
theorem dX10_freeBefore_38 : decode cX10_freeBefore 38 = .ok (.imul, 1) := by decide +kernel
theorem dX10_freeBefore_39 : decode cX10_freeBefore 39 = .ok (.iadd, 1) := by decide +kernel
theorem dX10_freeBefore_40 : decode cX10_freeBefore 40 = .ok (.ireturn, 1) := by decide +kernel
theorem dX10_freeWith_0 : decode cX10_freeWith 0 = .ok (.aload_n 0, 1) := by decide +kernel
theorem dX10_freeWith_1 : decode cX10_freeWith 1 = .ok (.getfield 23, 3) := by decide +kernel
theorem dX10_freeWith_4 : decode cX10_freeWith 4 = .ok (.iload_n 1, 1) := by decide +kernel
theorem dX10_freeWith_5 : decode cX10_freeWith 5 = .ok (.aload_n 0, 1) := by decide +kernel
theorem dX10_freeWith_6 : decode cX10_freeWith 6 = .ok (.getfield 23, 3) := by decide +kernel
theorem dX10_freeWith_9 : decode cX10_freeWith 9 = .ok (.getfield 151, 3) := by decide +kernel
theorem dX10_freeWith_12 : decode cX10_freeWith 12 = .ok (.invokevirtual 351, 3) := by decide +kernel
theorem dX10_freeWith_15 : decode cX10_freeWith 15 = .ok (.ireturn, 1) := by decide +kernel
theorem dX10_greatest_0 : decode cX10_greatest 0 = .ok (.iload_n 1, 1) := by decide +kernel
theorem dX10_greatest_1 : decode cX10_greatest 1 = .ok (.ifCond .lt 19, 3) := by decide +kernel
theorem dX10_greatest_4 : decode cX10_greatest 4 = .ok (.iload_n 1, 1) := by decide +kernel
theorem dX10_greatest_5 : decode cX10_greatest 5 = .ok (.iconst 1, 1) := by decide +kernel
theorem dX10_greatest_6 : decode cX10_greatest 6 = .ok (.if_icmp .gt 14, 3) := by decide +kernel
theorem dX10_greatest_9 : decode cX10_greatest 9 = .ok (.iload_n 2, 1) := by decide +kernel
theorem dX10_greatest_10 : decode cX10_greatest 10 = .ok (.iconst 1, 1) := by decide +kernel
theorem dX10_greatest_11 : decode cX10_greatest 11 = .ok (.if_icmp .lt 9, 3) := by decide +kernel
theorem dX10_greatest_14 : decode cX10_greatest 14 = .ok (.iload_n 2, 1) := by decide +kernel
theorem dX10_greatest_15 : decode cX10_greatest 15 = .ok (.bipush 100, 2) := by decide +kernel
theorem dX10_greatest_17 : decode cX10_greatest 17 = .ok (.if_icmp .le 5, 3) := by decide +kernel
theorem dX10_greatest_20 : decode cX10_greatest 20 = .ok (.iconst (-1), 1) := by decide +kernel
theorem dX10_greatest_21 : decode cX10_greatest 21 = .ok (.ireturn, 1) := by decide +kernel
theorem dX10_greatest_22 : decode cX10_greatest 22 = .ok (.iload_n 1, 1) := by decide +kernel
theorem dX10_greatest_23 : decode cX10_greatest 23 = .ok (.iload_n 2, 1) := by decide +kernel
theorem dX10_greatest_24 : decode cX10_greatest 24 = .ok (.invokestatic 303, 3) := by decide +kernel
theorem dX10_greatest_27 : decode cX10_greatest 27 = .ok (.ireturn, 1) := by decide +kernel
theorem dX10_greatestBound_0 : decode cX10_greatestBound 0 = .ok (.iload_n 0, 1) := by decide +kernel
theorem dX10_greatestBound_1 : decode cX10_greatestBound 1 = .ok (.ifCond .ne 11, 3) := by decide +kernel
theorem dX10_greatestBound_4 : decode cX10_greatestBound 4 = .ok (.iload_n 1, 1) := by decide +kernel
theorem dX10_greatestBound_5 : decode cX10_greatestBound 5 = .ok (.iconst 1, 1) := by decide +kernel
theorem dX10_greatestBound_6 : decode cX10_greatestBound 6 = .ok (.isub, 1) := by decide +kernel
theorem dX10_greatestBound_7 : decode cX10_greatestBound 7 = .ok (.iconst 3, 1) := by decide +kernel
theorem dX10_greatestBound_8 : decode cX10_greatestBound 8 = .ok (.idiv, 1) := by decide +kernel
theorem dX10_greatestBound_9 : decode cX10_greatestBound 9 = .ok (.goto 8, 3) := by decide +kernel
theorem dX10_greatestBound_12 : decode cX10_greatestBound 12 = .ok (.iload_n 1, 1) := by decide +kernel
theorem dX10_greatestBound_13 : decode cX10_greatestBound 13 = .ok (.iconst 1, 1) := by decide +kernel
theorem dX10_greatestBound_14 : decode cX10_greatestBound 14 = .ok (.isub, 1) := by decide +kernel
theorem dX10_greatestBound_15 : decode cX10_greatestBound 15 = .ok (.iconst 4, 1) := by decide +kernel
theorem dX10_greatestBound_16 : decode cX10_greatestBound 16 = .ok (.idiv, 1) := by decide +kernel
theorem dX10_greatestBound_17 : decode cX10_greatestBound 17 = .ok (.ireturn, 1) := by decide +kernel
theorem dX10_heard_0 : decode cX10_heard 0 = .ok (.aload_n 0, 1) := by decide +kernel
theorem dX10_heard_1 : decode cX10_heard 1 = .ok (.iload_n 3, 1) := by decide +kernel
theorem dX10_heard_2 : decode cX10_heard 2 = .ok (.invokevirtual 217, 3) := by decide +kernel
theorem dX10_heard_5 : decode cX10_heard 5 = .ok (.ifCond .eq 21, 3) := by decide +kernel
theorem dX10_heard_8 : decode cX10_heard 8 = .ok (.aload_n 0, 1) := by decide +kernel
theorem dX10_heard_9 : decode cX10_heard 9 = .ok (.iload 4, 2) := by decide +kernel
theorem dX10_heard_11 : decode cX10_heard 11 = .ok (.invokevirtual 217, 3) := by decide +kernel
theorem dX10_heard_14 : decode cX10_heard 14 = .ok (.ifCond .eq 12, 3) := by decide +kernel
theorem dX10_heard_17 : decode cX10_heard 17 = .ok (.aload_n 0, 1) := by decide +kernel
theorem dX10_heard_18 : decode cX10_heard 18 = .ok (.iload_n 1, 1) := by decide +kernel
theorem dX10_heard_19 : decode cX10_heard 19 = .ok (.iload_n 2, 1) := by decide +kernel
theorem dX10_heard_20 : decode cX10_heard 20 = .ok (.invokevirtual 221, 3) := by decide +kernel
theorem dX10_heard_23 : decode cX10_heard 23 = .ok (.ifCond .ne 5, 3) := by decide +kernel
theorem dX10_heard_26 : decode cX10_heard 26 = .ok (.iconst (-1), 1) := by decide +kernel
theorem dX10_heard_27 : decode cX10_heard 27 = .ok (.ireturn, 1) := by decide +kernel
theorem dX10_heard_28 : decode cX10_heard 28 = .ok (.iload_n 2, 1) := by decide +kernel
theorem dX10_heard_29 : decode cX10_heard 29 = .ok (.aload_n 0, 1) := by decide +kernel
theorem dX10_heard_30 : decode cX10_heard 30 = .ok (.getfield 23, 3) := by decide +kernel
theorem dX10_heard_33 : decode cX10_heard 33 = .ok (.invokevirtual 169, 3) := by decide +kernel
theorem dX10_heard_36 : decode cX10_heard 36 = .ok (.iconst 1, 1) := by decide +kernel
theorem dX10_heard_37 : decode cX10_heard 37 = .ok (.isub, 1) := by decide +kernel
theorem dX10_heard_38 : decode cX10_heard 38 = .ok (.if_icmp .ne 19, 3) := by decide +kernel
theorem dX10_heard_41 : decode cX10_heard 41 = .ok (.iload_n 3, 1) := by decide +kernel
