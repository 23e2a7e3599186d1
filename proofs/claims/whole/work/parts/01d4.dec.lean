theorem dJ0_charAt_5068e_8 : decode cJ0_charAt_5068e 8 = .ok (.getfield 9, 3) := by decide +kernel
theorem dJ0_charAt_5068e_11 : decode cJ0_charAt_5068e 11 = .ok (.iload_n 1, 1) := by decide +kernel
theorem dJ0_charAt_5068e_12 : decode cJ0_charAt_5068e 12 = .ok (.invokestatic 495, 3) := by decide +kernel
theorem dJ0_charAt_5068e_15 : decode cJ0_charAt_5068e 15 = .ok (.ireturn, 1) := by decide +kernel
theorem dJ0_charAt_5068e_16 : decode cJ0_charAt_5068e 16 = .ok (.aload_n 0, 1) := by decide +kernel
theorem dJ0_charAt_5068e_17 : decode cJ0_charAt_5068e 17 = .ok (.getfield 9, 3) := by decide +kernel
theorem dJ0_charAt_5068e_20 : decode cJ0_charAt_5068e 20 = .ok (.iload_n 1, 1) := by decide +kernel
theorem dJ0_charAt_5068e_21 : decode cJ0_charAt_5068e 21 = .ok (.invokestatic 498, 3) := by decide +kernel
theorem dJ0_charAt_5068e_24 : decode cJ0_charAt_5068e 24 = .ok (.ireturn, 1) := by decide +kernel
theorem dJ0_coder_7d493_0 : decode cJ0_coder_7d493 0 = .ok (.getstatic 38, 3) := by decide +kernel
theorem dJ0_coder_7d493_3 : decode cJ0_coder_7d493 3 = .ok (.ifCond .eq 10, 3) := by decide +kernel
theorem dJ0_coder_7d493_6 : decode cJ0_coder_7d493 6 = .ok (.aload_n 0, 1) := by decide +kernel
theorem dJ0_coder_7d493_7 : decode cJ0_coder_7d493 7 = .ok (.getfield 15, 3) := by decide +kernel
theorem dJ0_coder_7d493_10 : decode cJ0_coder_7d493 10 = .ok (.goto 4, 3) := by decide +kernel
theorem dJ0_coder_7d493_13 : decode cJ0_coder_7d493 13 = .ok (.iconst 1, 1) := by decide +kernel
theorem dJ0_coder_7d493_14 : decode cJ0_coder_7d493 14 = .ok (.ireturn, 1) := by decide +kernel
theorem dJ0_isLatin1_aae02_0 : decode cJ0_isLatin1_aae02 0 = .ok (.getstatic 38, 3) := by decide +kernel
theorem dJ0_isLatin1_aae02_3 : decode cJ0_isLatin1_aae02 3 = .ok (.ifCond .eq 14, 3) := by decide +kernel
theorem dJ0_isLatin1_aae02_6 : decode cJ0_isLatin1_aae02 6 = .ok (.aload_n 0, 1) := by decide +kernel
theorem dJ0_isLatin1_aae02_7 : decode cJ0_isLatin1_aae02 7 = .ok (.getfield 15, 3) := by decide +kernel
theorem dJ0_isLatin1_aae02_10 : decode cJ0_isLatin1_aae02 10 = .ok (.ifCond .ne 7, 3) := by decide +kernel
theorem dJ0_isLatin1_aae02_13 : decode cJ0_isLatin1_aae02 13 = .ok (.iconst 1, 1) := by decide +kernel
theorem dJ0_isLatin1_aae02_14 : decode cJ0_isLatin1_aae02 14 = .ok (.goto 4, 3) := by decide +kernel
theorem dJ0_isLatin1_aae02_17 : decode cJ0_isLatin1_aae02 17 = .ok (.iconst 0, 1) := by decide +kernel
theorem dJ0_isLatin1_aae02_18 : decode cJ0_isLatin1_aae02 18 = .ok (.ireturn, 1) := by decide +kernel
theorem dJ0_checkIndex_df160_0 : decode cJ0_checkIndex_df160 0 = .ok (.iload_n 0, 1) := by decide +kernel
theorem dJ0_checkIndex_df160_1 : decode cJ0_checkIndex_df160 1 = .ok (.iload_n 1, 1) := by decide +kernel
theorem dJ0_checkIndex_df160_2 : decode cJ0_checkIndex_df160 2 = .ok (.getstatic 1053, 3) := by decide +kernel
theorem dJ0_checkIndex_df160_5 : decode cJ0_checkIndex_df160 5 = .ok (.invokestatic 1059, 3) := by decide +kernel
theorem dJ0_checkIndex_df160_8 : decode cJ0_checkIndex_df160 8 = .ok (.pop, 1) := by decide +kernel
theorem dJ0_checkIndex_df160_9 : decode cJ0_checkIndex_df160 9 = .ok (.return_, 1) := by decide +kernel
theorem dJ1_charAt_3b067_0 : decode cJ1_charAt_3b067 0 = .ok (.iload_n 1, 1) := by decide +kernel
theorem dJ1_charAt_3b067_1 : decode cJ1_charAt_3b067 1 = .ok (.aload_n 0, 1) := by decide +kernel
theorem dJ1_charAt_3b067_2 : decode cJ1_charAt_3b067 2 = .ok (.arraylength, 1) := by decide +kernel
theorem dJ1_charAt_3b067_3 : decode cJ1_charAt_3b067 3 = .ok (.invokestatic 9, 3) := by decide +kernel
theorem dJ1_charAt_3b067_6 : decode cJ1_charAt_3b067 6 = .ok (.aload_n 0, 1) := by decide +kernel
theorem dJ1_charAt_3b067_7 : decode cJ1_charAt_3b067 7 = .ok (.iload_n 1, 1) := by decide +kernel
theorem dJ1_charAt_3b067_8 : decode cJ1_charAt_3b067 8 = .ok (.baload, 1) := by decide +kernel
theorem dJ1_charAt_3b067_9 : decode cJ1_charAt_3b067 9 = .ok (.sipush 255, 3) := by decide +kernel
theorem dJ1_charAt_3b067_12 : decode cJ1_charAt_3b067 12 = .ok (.iand, 1) := by decide +kernel
theorem dJ1_charAt_3b067_13 : decode cJ1_charAt_3b067 13 = .ok (.i2c, 1) := by decide +kernel
theorem dJ1_charAt_3b067_14 : decode cJ1_charAt_3b067 14 = .ok (.ireturn, 1) := by decide +kernel
theorem dJ2_getChar_3b067_0 : decode cJ2_getChar_3b067 0 = .ok (.getstatic 44, 3) := by decide +kernel
theorem dJ2_getChar_3b067_3 : decode cJ2_getChar_3b067 3 = .ok (.ifCond .ne 25, 3) := by decide +kernel
theorem dJ2_getChar_3b067_6 : decode cJ2_getChar_3b067 6 = .ok (.iload_n 1, 1) := by decide +kernel
theorem dJ2_getChar_3b067_7 : decode cJ2_getChar_3b067 7 = .ok (.ifCond .lt 11, 3) := by decide +kernel
theorem dJ2_getChar_3b067_10 : decode cJ2_getChar_3b067 10 = .ok (.iload_n 1, 1) := by decide +kernel
theorem dJ2_getChar_3b067_11 : decode cJ2_getChar_3b067 11 = .ok (.aload_n 0, 1) := by decide +kernel
theorem dJ2_getChar_3b067_12 : decode cJ2_getChar_3b067 12 = .ok (.invokestatic 48, 3) := by decide +kernel
theorem dJ2_getChar_3b067_15 : decode cJ2_getChar_3b067 15 = .ok (.if_icmp .lt 13, 3) := by decide +kernel
theorem dJ2_getChar_3b067_18 : decode cJ2_getChar_3b067 18 = .ok (.new 52, 3) := by decide +kernel
theorem dJ2_getChar_3b067_21 : decode cJ2_getChar_3b067 21 = .ok (.dup, 1) := by decide +kernel
theorem dJ2_getChar_3b067_22 : decode cJ2_getChar_3b067 22 = .ok (.ldc 54, 2) := by decide +kernel
theorem dJ2_getChar_3b067_24 : decode cJ2_getChar_3b067 24 = .ok (.invokespecial 56, 3) := by decide +kernel
theorem dJ2_getChar_3b067_27 : decode cJ2_getChar_3b067 27 = .ok (.athrow, 1) := by decide +kernel
theorem dJ2_getChar_3b067_28 : decode cJ2_getChar_3b067 28 = .ok (.iload_n 1, 1) := by decide +kernel
theorem dJ2_getChar_3b067_29 : decode cJ2_getChar_3b067 29 = .ok (.iconst 1, 1) := by decide +kernel
theorem dJ2_getChar_3b067_30 : decode cJ2_getChar_3b067 30 = .ok (.ishl, 1) := by decide +kernel
theorem dJ2_getChar_3b067_31 : decode cJ2_getChar_3b067 31 = .ok (.istore_n 1, 1) := by decide +kernel
theorem dJ2_getChar_3b067_32 : decode cJ2_getChar_3b067 32 = .ok (.aload_n 0, 1) := by decide +kernel
theorem dJ2_getChar_3b067_33 : decode cJ2_getChar_3b067 33 = .ok (.iload_n 1, 1) := by decide +kernel
theorem dJ2_getChar_3b067_34 : decode cJ2_getChar_3b067 34 = .ok (.iinc 1 1, 3) := by decide +kernel
theorem dJ2_getChar_3b067_37 : decode cJ2_getChar_3b067 37 = .ok (.baload, 1) := by decide +kernel
theorem dJ2_getChar_3b067_38 : decode cJ2_getChar_3b067 38 = .ok (.sipush 255, 3) := by decide +kernel
theorem dJ2_getChar_3b067_41 : decode cJ2_getChar_3b067 41 = .ok (.iand, 1) := by decide +kernel
theorem dJ2_getChar_3b067_42 : decode cJ2_getChar_3b067 42 = .ok (.getstatic 59, 3) := by decide +kernel
theorem dJ2_getChar_3b067_45 : decode cJ2_getChar_3b067 45 = .ok (.ishl, 1) := by decide +kernel
theorem dJ2_getChar_3b067_46 : decode cJ2_getChar_3b067 46 = .ok (.aload_n 0, 1) := by decide +kernel
theorem dJ2_getChar_3b067_47 : decode cJ2_getChar_3b067 47 = .ok (.iload_n 1, 1) := by decide +kernel
theorem dJ2_getChar_3b067_48 : decode cJ2_getChar_3b067 48 = .ok (.baload, 1) := by decide +kernel
theorem dJ2_getChar_3b067_49 : decode cJ2_getChar_3b067 49 = .ok (.sipush 255, 3) := by decide +kernel
theorem dJ2_getChar_3b067_52 : decode cJ2_getChar_3b067 52 = .ok (.iand, 1) := by decide +kernel
theorem dJ2_getChar_3b067_53 : decode cJ2_getChar_3b067 53 = .ok (.getstatic 63, 3) := by decide +kernel
theorem dJ2_getChar_3b067_56 : decode cJ2_getChar_3b067 56 = .ok (.ishl, 1) := by decide +kernel
theorem dJ2_getChar_3b067_57 : decode cJ2_getChar_3b067 57 = .ok (.ior, 1) := by decide +kernel
theorem dJ2_getChar_3b067_58 : decode cJ2_getChar_3b067 58 = .ok (.i2c, 1) := by decide +kernel
theorem dJ2_getChar_3b067_59 : decode cJ2_getChar_3b067 59 = .ok (.ireturn, 1) := by decide +kernel
theorem dJ2_length_9d52b_0 : decode cJ2_length_9d52b 0 = .ok (.aload_n 0, 1) := by decide +kernel
theorem dJ2_length_9d52b_1 : decode cJ2_length_9d52b 1 = .ok (.arraylength, 1) := by decide +kernel
theorem dJ2_length_9d52b_2 : decode cJ2_length_9d52b 2 = .ok (.iconst 1, 1) := by decide +kernel
theorem dJ2_length_9d52b_3 : decode cJ2_length_9d52b 3 = .ok (.ishr, 1) := by decide +kernel
theorem dJ2_length_9d52b_4 : decode cJ2_length_9d52b 4 = .ok (.ireturn, 1) := by decide +kernel
theorem dJ2_charAt_3b067_0 : decode cJ2_charAt_3b067 0 = .ok (.iload_n 1, 1) := by decide +kernel
theorem dJ2_charAt_3b067_1 : decode cJ2_charAt_3b067 1 = .ok (.aload_n 0, 1) := by decide +kernel
theorem dJ2_charAt_3b067_2 : decode cJ2_charAt_3b067 2 = .ok (.invokestatic 67, 3) := by decide +kernel
theorem dJ2_charAt_3b067_5 : decode cJ2_charAt_3b067 5 = .ok (.aload_n 0, 1) := by decide +kernel
theorem dJ2_charAt_3b067_6 : decode cJ2_charAt_3b067 6 = .ok (.iload_n 1, 1) := by decide +kernel
theorem dJ2_charAt_3b067_7 : decode cJ2_charAt_3b067 7 = .ok (.invokestatic 71, 3) := by decide +kernel
theorem dJ2_charAt_3b067_10 : decode cJ2_charAt_3b067 10 = .ok (.ireturn, 1) := by decide +kernel
theorem dJ2_checkIndex_2214a_0 : decode cJ2_checkIndex_2214a 0 = .ok (.iload_n 0, 1) := by decide +kernel
theorem dJ2_checkIndex_2214a_1 : decode cJ2_checkIndex_2214a 1 = .ok (.aload_n 1, 1) := by decide +kernel
theorem dJ2_checkIndex_2214a_2 : decode cJ2_checkIndex_2214a 2 = .ok (.invokestatic 48, 3) := by decide +kernel
theorem dJ2_checkIndex_2214a_5 : decode cJ2_checkIndex_2214a 5 = .ok (.invokestatic 414, 3) := by decide +kernel
theorem dJ2_checkIndex_2214a_8 : decode cJ2_checkIndex_2214a 8 = .ok (.return_, 1) := by decide +kernel
theorem dJ3_checkIndex_8e157_0 : decode cJ3_checkIndex_8e157 0 = .ok (.iload_n 0, 1) := by decide +kernel
theorem dJ3_checkIndex_8e157_1 : decode cJ3_checkIndex_8e157 1 = .ok (.ifCond .lt 8, 3) := by decide +kernel
theorem dJ3_checkIndex_8e157_4 : decode cJ3_checkIndex_8e157 4 = .ok (.iload_n 0, 1) := by decide +kernel
theorem dJ3_checkIndex_8e157_5 : decode cJ3_checkIndex_8e157 5 = .ok (.iload_n 1, 1) := by decide +kernel
theorem dJ3_checkIndex_8e157_6 : decode cJ3_checkIndex_8e157 6 = .ok (.if_icmp .lt 10, 3) := by decide +kernel
theorem dJ3_checkIndex_8e157_9 : decode cJ3_checkIndex_8e157 9 = .ok (.aload_n 2, 1) := by decide +kernel
theorem dJ3_checkIndex_8e157_10 : decode cJ3_checkIndex_8e157 10 = .ok (.iload_n 0, 1) := by decide +kernel
theorem dJ3_checkIndex_8e157_11 : decode cJ3_checkIndex_8e157 11 = .ok (.iload_n 1, 1) := by decide +kernel
theorem dJ3_checkIndex_8e157_12 : decode cJ3_checkIndex_8e157 12 = .ok (.invokestatic 95, 3) := by decide +kernel
theorem dJ3_checkIndex_8e157_15 : decode cJ3_checkIndex_8e157 15 = .ok (.athrow, 1) := by decide +kernel
theorem dJ3_checkIndex_8e157_16 : decode cJ3_checkIndex_8e157 16 = .ok (.iload_n 0, 1) := by decide +kernel
theorem dJ3_checkIndex_8e157_17 : decode cJ3_checkIndex_8e157 17 = .ok (.ireturn, 1) := by decide +kernel
theorem dX8_init_0 : decode cX8_init 0 = .ok (.aload_n 0, 1) := by decide +kernel
theorem dX8_init_1 : decode cX8_init 1 = .ok (.invokespecial 3, 3) := by decide +kernel
theorem dX8_init_4 : decode cX8_init 4 = .ok (.aload_n 0, 1) := by decide +kernel
theorem dX8_init_5 : decode cX8_init 5 = .ok (.sipush 400, 3) := by decide +kernel
theorem dX8_init_8 : decode cX8_init 8 = .ok (.newarray .int, 2) := by decide +kernel
theorem dX8_init_10 : decode cX8_init 10 = .ok (.putfield 11, 3) := by decide +kernel
theorem dX8_init_13 : decode cX8_init 13 = .ok (.aload_n 0, 1) := by decide +kernel
theorem dX8_init_14 : decode cX8_init 14 = .ok (.iconst 4, 1) := by decide +kernel
theorem dX8_init_15 : decode cX8_init 15 = .ok (.newarray .int, 2) := by decide +kernel
theorem dX8_init_17 : decode cX8_init 17 = .ok (.putfield 15, 3) := by decide +kernel
theorem dX8_init_20 : decode cX8_init 20 = .ok (.aload_n 0, 1) := by decide +kernel
theorem dX8_init_21 : decode cX8_init 21 = .ok (.iconst 0, 1) := by decide +kernel
theorem dX8_init_22 : decode cX8_init 22 = .ok (.putfield 18, 3) := by decide +kernel
theorem dX8_init_25 : decode cX8_init 25 = .ok (.aload_n 0, 1) := by decide +kernel
theorem dX8_init_26 : decode cX8_init 26 = .ok (.iconst 0, 1) := by decide +kernel
theorem dX8_init_27 : decode cX8_init 27 = .ok (.putfield 22, 3) := by decide +kernel
theorem dX8_init_30 : decode cX8_init 30 = .ok (.aload_n 0, 1) := by decide +kernel
theorem dX8_init_31 : decode cX8_init 31 = .ok (.iconst 0, 1) := by decide +kernel
theorem dX8_init_32 : decode cX8_init 32 = .ok (.putfield 25, 3) := by decide +kernel
theorem dX8_init_35 : decode cX8_init 35 = .ok (.aload_n 0, 1) := by decide +kernel
theorem dX8_init_36 : decode cX8_init 36 = .ok (.iconst 0, 1) := by decide +kernel
theorem dX8_init_37 : decode cX8_init 37 = .ok (.putfield 28, 3) := by decide +kernel
theorem dX8_init_40 : decode cX8_init 40 = .ok (.aload_n 0, 1) := by decide +kernel
theorem dX8_init_41 : decode cX8_init 41 = .ok (.iconst 0, 1) := by decide +kernel
theorem dX8_init_42 : decode cX8_init 42 = .ok (.putfield 31, 3) := by decide +kernel
theorem dX8_init_45 : decode cX8_init 45 = .ok (.aload_n 0, 1) := by decide +kernel
theorem dX8_init_46 : decode cX8_init 46 = .ok (.iconst 0, 1) := by decide +kernel
theorem dX8_init_47 : decode cX8_init 47 = .ok (.putfield 34, 3) := by decide +kernel
theorem dX8_init_50 : decode cX8_init 50 = .ok (.aload_n 0, 1) := by decide +kernel
theorem dX8_init_51 : decode cX8_init 51 = .ok (.iconst 0, 1) := by decide +kernel
theorem dX8_init_52 : decode cX8_init 52 = .ok (.putfield 37, 3) := by decide +kernel
theorem dX8_init_55 : decode cX8_init 55 = .ok (.return_, 1) := by decide +kernel
theorem dX8_take_0 : decode cX8_take 0 = .ok (.iload_n 3, 1) := by decide +kernel
theorem dX8_take_1 : decode cX8_take 1 = .ok (.sipush 400, 3) := by decide +kernel
theorem dX8_take_4 : decode cX8_take 4 = .ok (.aload_n 0, 1) := by decide +kernel
theorem dX8_take_5 : decode cX8_take 5 = .ok (.getfield 18, 3) := by decide +kernel
theorem dX8_take_8 : decode cX8_take 8 = .ok (.isub, 1) := by decide +kernel
theorem dX8_take_9 : decode cX8_take 9 = .ok (.if_icmp .le 5, 3) := by decide +kernel
theorem dX8_take_12 : decode cX8_take 12 = .ok (.iconst 0, 1) := by decide +kernel
theorem dX8_take_13 : decode cX8_take 13 = .ok (.ireturn, 1) := by decide +kernel
theorem dX8_take_14 : decode cX8_take 14 = .ok (.iload_n 3, 1) := by decide +kernel
theorem dX8_take_15 : decode cX8_take 15 = .ok (.iconst 1, 1) := by decide +kernel
theorem dX8_take_16 : decode cX8_take 16 = .ok (.isub, 1) := by decide +kernel
theorem dX8_take_17 : decode cX8_take 17 = .ok (.istore 4, 2) := by decide +kernel
theorem dX8_take_19 : decode cX8_take 19 = .ok (.iload 4, 2) := by decide +kernel
theorem dX8_take_21 : decode cX8_take 21 = .ok (.ifCond .lt 40, 3) := by decide +kernel
theorem dX8_take_24 : decode cX8_take 24 = .ok (.aload_n 0, 1) := by decide +kernel
theorem dX8_take_25 : decode cX8_take 25 = .ok (.getfield 11, 3) := by decide +kernel
theorem dX8_take_28 : decode cX8_take 28 = .ok (.aload_n 0, 1) := by decide +kernel
theorem dX8_take_29 : decode cX8_take 29 = .ok (.getfield 18, 3) := by decide +kernel
theorem dX8_take_32 : decode cX8_take 32 = .ok (.lload_n 1, 1) := by decide +kernel
theorem dX8_take_33 : decode cX8_take 33 = .ok (.bipush 8, 2) := by decide +kernel
theorem dX8_take_35 : decode cX8_take 35 = .ok (.iload 4, 2) := by decide +kernel
theorem dX8_take_37 : decode cX8_take 37 = .ok (.imul, 1) := by decide +kernel
theorem dX8_take_38 : decode cX8_take 38 = .ok (.lshr, 1) := by decide +kernel
theorem dX8_take_39 : decode cX8_take 39 = .ok (.l2i, 1) := by decide +kernel
theorem dX8_take_40 : decode cX8_take 40 = .ok (.sipush 255, 3) := by decide +kernel
theorem dX8_take_43 : decode cX8_take 43 = .ok (.iand, 1) := by decide +kernel
theorem dX8_take_44 : decode cX8_take 44 = .ok (.iastore, 1) := by decide +kernel
theorem dX8_take_45 : decode cX8_take 45 = .ok (.aload_n 0, 1) := by decide +kernel
theorem dX8_take_46 : decode cX8_take 46 = .ok (.dup, 1) := by decide +kernel
theorem dX8_take_47 : decode cX8_take 47 = .ok (.getfield 18, 3) := by decide +kernel
theorem dX8_take_50 : decode cX8_take 50 = .ok (.iconst 1, 1) := by decide +kernel
theorem dX8_take_51 : decode cX8_take 51 = .ok (.iadd, 1) := by decide +kernel
theorem dX8_take_52 : decode cX8_take 52 = .ok (.putfield 18, 3) := by decide +kernel
theorem dX8_take_55 : decode cX8_take 55 = .ok (.iinc 4 (-1), 3) := by decide +kernel
theorem dX8_take_58 : decode cX8_take 58 = .ok (.goto (-39), 3) := by decide +kernel
theorem dX8_take_61 : decode cX8_take 61 = .ok (.iconst 1, 1) := by decide +kernel
theorem dX8_take_62 : decode cX8_take 62 = .ok (.ireturn, 1) := by decide +kernel
theorem dX8_readGround_0 : decode cX8_readGround 0 = .ok (.new 40, 3) := by decide +kernel
theorem dX8_readGround_3 : decode cX8_readGround 3 = .ok (.dup, 1) := by decide +kernel
theorem dX8_readGround_4 : decode cX8_readGround 4 = .ok (.invokespecial 42, 3) := by decide +kernel
theorem dX8_readGround_7 : decode cX8_readGround 7 = .ok (.astore_n 1, 1) := by decide +kernel
theorem dX8_readGround_8 : decode cX8_readGround 8 = .ok (.aload_n 0, 1) := by decide +kernel
theorem dX8_readGround_9 : decode cX8_readGround 9 = .ok (.iconst 0, 1) := by decide +kernel
theorem dX8_readGround_10 : decode cX8_readGround 10 = .ok (.putfield 34, 3) := by decide +kernel
theorem dX8_readGround_13 : decode cX8_readGround 13 = .ok (.aload_n 0, 1) := by decide +kernel
theorem dX8_readGround_14 : decode cX8_readGround 14 = .ok (.invokevirtual 43, 3) := by decide +kernel
theorem dX8_readGround_17 : decode cX8_readGround 17 = .ok (.aload_n 0, 1) := by decide +kernel
theorem dX8_readGround_18 : decode cX8_readGround 18 = .ok (.aload_n 1, 1) := by decide +kernel
theorem dX8_readGround_19 : decode cX8_readGround 19 = .ok (.invokevirtual 46, 3) := by decide +kernel
theorem dX8_readGround_22 : decode cX8_readGround 22 = .ok (.ifCond .eq 46, 3) := by decide +kernel
theorem dX8_readGround_25 : decode cX8_readGround 25 = .ok (.aload_n 0, 1) := by decide +kernel
theorem dX8_readGround_26 : decode cX8_readGround 26 = .ok (.aload_n 1, 1) := by decide +kernel
theorem dX8_readGround_27 : decode cX8_readGround 27 = .ok (.invokevirtual 50, 3) := by decide +kernel
theorem dX8_readGround_30 : decode cX8_readGround 30 = .ok (.ifCond .eq 38, 3) := by decide +kernel
theorem dX8_readGround_33 : decode cX8_readGround 33 = .ok (.aload_n 0, 1) := by decide +kernel
theorem dX8_readGround_34 : decode cX8_readGround 34 = .ok (.aload_n 1, 1) := by decide +kernel
theorem dX8_readGround_35 : decode cX8_readGround 35 = .ok (.invokevirtual 53, 3) := by decide +kernel
theorem dX8_readGround_38 : decode cX8_readGround 38 = .ok (.ifCond .eq 30, 3) := by decide +kernel
theorem dX8_readGround_41 : decode cX8_readGround 41 = .ok (.aload_n 0, 1) := by decide +kernel
theorem dX8_readGround_42 : decode cX8_readGround 42 = .ok (.aload_n 1, 1) := by decide +kernel
theorem dX8_readGround_43 : decode cX8_readGround 43 = .ok (.invokevirtual 56, 3) := by decide +kernel
theorem dX8_readGround_46 : decode cX8_readGround 46 = .ok (.ifCond .eq 22, 3) := by decide +kernel
theorem dX8_readGround_49 : decode cX8_readGround 49 = .ok (.aload_n 0, 1) := by decide +kernel
theorem dX8_readGround_50 : decode cX8_readGround 50 = .ok (.getfield 28, 3) := by decide +kernel
theorem dX8_readGround_53 : decode cX8_readGround 53 = .ok (.ifCond .eq 11, 3) := by decide +kernel
theorem dX8_readGround_56 : decode cX8_readGround 56 = .ok (.aload_n 0, 1) := by decide +kernel
theorem dX8_readGround_57 : decode cX8_readGround 57 = .ok (.iconst 1, 1) := by decide +kernel
theorem dX8_readGround_58 : decode cX8_readGround 58 = .ok (.invokevirtual 59, 3) := by decide +kernel
theorem dX8_readGround_61 : decode cX8_readGround 61 = .ok (.ifCond .eq 7, 3) := by decide +kernel
theorem dX8_readGround_64 : decode cX8_readGround 64 = .ok (.iconst 1, 1) := by decide +kernel
theorem dX8_readGround_65 : decode cX8_readGround 65 = .ok (.goto 4, 3) := by decide +kernel
theorem dX8_readGround_68 : decode cX8_readGround 68 = .ok (.iconst 0, 1) := by decide +kernel
theorem dX8_readGround_69 : decode cX8_readGround 69 = .ok (.istore_n 2, 1) := by decide +kernel
theorem dX8_readGround_70 : decode cX8_readGround 70 = .ok (.aload_n 0, 1) := by decide +kernel
theorem dX8_readGround_71 : decode cX8_readGround 71 = .ok (.iconst 0, 1) := by decide +kernel
theorem dX8_readGround_72 : decode cX8_readGround 72 = .ok (.putfield 18, 3) := by decide +kernel
theorem dX8_readGround_75 : decode cX8_readGround 75 = .ok (.iload_n 2, 1) := by decide +kernel
theorem dX8_readGround_76 : decode cX8_readGround 76 = .ok (.ifCond .eq 7, 3) := by decide +kernel
theorem dX8_readGround_79 : decode cX8_readGround 79 = .ok (.aload_n 1, 1) := by decide +kernel
theorem dX8_readGround_80 : decode cX8_readGround 80 = .ok (.goto 4, 3) := by decide +kernel
theorem dX8_readGround_83 : decode cX8_readGround 83 = .ok (.aconst_null, 1) := by decide +kernel
theorem dX8_readGround_84 : decode cX8_readGround 84 = .ok (.areturn, 1) := by decide +kernel
theorem dX8_readPosts_0 : decode cX8_readPosts 0 = .ok (.aload_n 0, 1) := by decide +kernel
theorem dX8_readPosts_1 : decode cX8_readPosts 1 = .ok (.ldc 63, 2) := by decide +kernel
theorem dX8_readPosts_3 : decode cX8_readPosts 3 = .ok (.invokevirtual 65, 3) := by decide +kernel
theorem dX8_readPosts_6 : decode cX8_readPosts 6 = .ok (.ifCond .eq 41, 3) := by decide +kernel
theorem dX8_readPosts_9 : decode cX8_readPosts 9 = .ok (.aload_n 0, 1) := by decide +kernel
theorem dX8_readPosts_10 : decode cX8_readPosts 10 = .ok (.iconst 0, 1) := by decide +kernel
theorem dX8_readPosts_11 : decode cX8_readPosts 11 = .ok (.iconst 0, 1) := by decide +kernel
theorem dX8_readPosts_12 : decode cX8_readPosts 12 = .ok (.iconst 5, 1) := by decide +kernel
theorem dX8_readPosts_13 : decode cX8_readPosts 13 = .ok (.invokevirtual 69, 3) := by decide +kernel
theorem dX8_readPosts_16 : decode cX8_readPosts 16 = .ok (.ifCond .eq 31, 3) := by decide +kernel
theorem dX8_readPosts_19 : decode cX8_readPosts 19 = .ok (.aload_n 0, 1) := by decide +kernel
theorem dX8_readPosts_20 : decode cX8_readPosts 20 = .ok (.iconst 1, 1) := by decide +kernel
theorem dX8_readPosts_21 : decode cX8_readPosts 21 = .ok (.iconst 0, 1) := by decide +kernel
theorem dX8_readPosts_22 : decode cX8_readPosts 22 = .ok (.iconst 5, 1) := by decide +kernel
theorem dX8_readPosts_23 : decode cX8_readPosts 23 = .ok (.invokevirtual 69, 3) := by decide +kernel
theorem dX8_readPosts_26 : decode cX8_readPosts 26 = .ok (.ifCond .eq 21, 3) := by decide +kernel
theorem dX8_readPosts_29 : decode cX8_readPosts 29 = .ok (.aload_n 0, 1) := by decide +kernel
theorem dX8_readPosts_30 : decode cX8_readPosts 30 = .ok (.iconst 2, 1) := by decide +kernel
theorem dX8_readPosts_31 : decode cX8_readPosts 31 = .ok (.iconst 1, 1) := by decide +kernel
theorem dX8_readPosts_32 : decode cX8_readPosts 32 = .ok (.bipush 6, 2) := by decide +kernel
theorem dX8_readPosts_34 : decode cX8_readPosts 34 = .ok (.invokevirtual 69, 3) := by decide +kernel
theorem dX8_readPosts_37 : decode cX8_readPosts 37 = .ok (.ifCond .eq 10, 3) := by decide +kernel
theorem dX8_readPosts_40 : decode cX8_readPosts 40 = .ok (.aload_n 0, 1) := by decide +kernel
theorem dX8_readPosts_41 : decode cX8_readPosts 41 = .ok (.invokevirtual 73, 3) := by decide +kernel
theorem dX8_readPosts_44 : decode cX8_readPosts 44 = .ok (.ifCond .ne 5, 3) := by decide +kernel
theorem dX8_readPosts_47 : decode cX8_readPosts 47 = .ok (.iconst 0, 1) := by decide +kernel
theorem dX8_readPosts_48 : decode cX8_readPosts 48 = .ok (.ireturn, 1) := by decide +kernel
theorem dX8_readPosts_49 : decode cX8_readPosts 49 = .ok (.aload_n 1, 1) := by decide +kernel
theorem dX8_readPosts_50 : decode cX8_readPosts 50 = .ok (.aload_n 0, 1) := by decide +kernel
theorem dX8_readPosts_51 : decode cX8_readPosts 51 = .ok (.getfield 15, 3) := by decide +kernel
theorem dX8_readPosts_54 : decode cX8_readPosts 54 = .ok (.iconst 0, 1) := by decide +kernel
theorem dX8_readPosts_55 : decode cX8_readPosts 55 = .ok (.iaload, 1) := by decide +kernel
theorem dX8_readPosts_56 : decode cX8_readPosts 56 = .ok (.putfield 77, 3) := by decide +kernel
theorem dX8_readPosts_59 : decode cX8_readPosts 59 = .ok (.aload_n 1, 1) := by decide +kernel
theorem dX8_readPosts_60 : decode cX8_readPosts 60 = .ok (.aload_n 0, 1) := by decide +kernel
theorem dX8_readPosts_61 : decode cX8_readPosts 61 = .ok (.getfield 15, 3) := by decide +kernel
theorem dX8_readPosts_64 : decode cX8_readPosts 64 = .ok (.iconst 1, 1) := by decide +kernel
theorem dX8_readPosts_65 : decode cX8_readPosts 65 = .ok (.iaload, 1) := by decide +kernel
theorem dX8_readPosts_66 : decode cX8_readPosts 66 = .ok (.putfield 80, 3) := by decide +kernel
theorem dX8_readPosts_69 : decode cX8_readPosts 69 = .ok (.aload_n 1, 1) := by decide +kernel
theorem dX8_readPosts_70 : decode cX8_readPosts 70 = .ok (.aload_n 0, 1) := by decide +kernel
theorem dX8_readPosts_71 : decode cX8_readPosts 71 = .ok (.getfield 15, 3) := by decide +kernel
theorem dX8_readPosts_74 : decode cX8_readPosts 74 = .ok (.iconst 2, 1) := by decide +kernel
theorem dX8_readPosts_75 : decode cX8_readPosts 75 = .ok (.iaload, 1) := by decide +kernel
theorem dX8_readPosts_76 : decode cX8_readPosts 76 = .ok (.putfield 83, 3) := by decide +kernel
theorem dX8_readPosts_79 : decode cX8_readPosts 79 = .ok (.iconst 1, 1) := by decide +kernel
theorem dX8_readPosts_80 : decode cX8_readPosts 80 = .ok (.ireturn, 1) := by decide +kernel
theorem dX8_readVillages_0 : decode cX8_readVillages 0 = .ok (.iconst 0, 1) := by decide +kernel
theorem dX8_readVillages_1 : decode cX8_readVillages 1 = .ok (.istore_n 2, 1) := by decide +kernel
theorem dX8_readVillages_2 : decode cX8_readVillages 2 = .ok (.iload_n 2, 1) := by decide +kernel
theorem dX8_readVillages_3 : decode cX8_readVillages 3 = .ok (.bipush 8, 2) := by decide +kernel
theorem dX8_readVillages_5 : decode cX8_readVillages 5 = .ok (.if_icmp .gt 97, 3) := by decide +kernel
theorem dX8_readVillages_8 : decode cX8_readVillages 8 = .ok (.aload_n 0, 1) := by decide +kernel
theorem dX8_readVillages_9 : decode cX8_readVillages 9 = .ok (.ldc 86, 2) := by decide +kernel
theorem dX8_readVillages_11 : decode cX8_readVillages 11 = .ok (.invokevirtual 88, 3) := by decide +kernel
theorem dX8_readVillages_14 : decode cX8_readVillages 14 = .ok (.ifCond .eq 88, 3) := by decide +kernel
theorem dX8_readVillages_17 : decode cX8_readVillages 17 = .ok (.iload_n 2, 1) := by decide +kernel
theorem dX8_readVillages_18 : decode cX8_readVillages 18 = .ok (.bipush 8, 2) := by decide +kernel
theorem dX8_readVillages_20 : decode cX8_readVillages 20 = .ok (.if_icmp .ne 9, 3) := by decide +kernel
theorem dX8_readVillages_23 : decode cX8_readVillages 23 = .ok (.aload_n 0, 1) := by decide +kernel
theorem dX8_readVillages_24 : decode cX8_readVillages 24 = .ok (.iconst 3, 1) := by decide +kernel
theorem dX8_readVillages_25 : decode cX8_readVillages 25 = .ok (.invokevirtual 59, 3) := by decide +kernel
theorem dX8_readVillages_28 : decode cX8_readVillages 28 = .ok (.ireturn, 1) := by decide +kernel
theorem dX8_readVillages_29 : decode cX8_readVillages 29 = .ok (.aload_n 0, 1) := by decide +kernel
theorem dX8_readVillages_30 : decode cX8_readVillages 30 = .ok (.invokevirtual 43, 3) := by decide +kernel
theorem dX8_readVillages_33 : decode cX8_readVillages 33 = .ok (.aload_n 0, 1) := by decide +kernel
theorem dX8_readVillages_34 : decode cX8_readVillages 34 = .ok (.iconst 0, 1) := by decide +kernel
theorem dX8_readVillages_35 : decode cX8_readVillages 35 = .ok (.iconst 0, 1) := by decide +kernel
theorem dX8_readVillages_36 : decode cX8_readVillages 36 = .ok (.bipush 7, 2) := by decide +kernel
theorem dX8_readVillages_38 : decode cX8_readVillages 38 = .ok (.invokevirtual 69, 3) := by decide +kernel
theorem dX8_readVillages_41 : decode cX8_readVillages 41 = .ok (.ifCond .eq 31, 3) := by decide +kernel
theorem dX8_readVillages_44 : decode cX8_readVillages 44 = .ok (.aload_n 0, 1) := by decide +kernel
theorem dX8_readVillages_45 : decode cX8_readVillages 45 = .ok (.iconst 1, 1) := by decide +kernel
theorem dX8_readVillages_46 : decode cX8_readVillages 46 = .ok (.iconst 0, 1) := by decide +kernel
theorem dX8_readVillages_47 : decode cX8_readVillages 47 = .ok (.iconst 5, 1) := by decide +kernel
theorem dX8_readVillages_48 : decode cX8_readVillages 48 = .ok (.invokevirtual 69, 3) := by decide +kernel
theorem dX8_readVillages_51 : decode cX8_readVillages 51 = .ok (.ifCond .eq 21, 3) := by decide +kernel
theorem dX8_readVillages_54 : decode cX8_readVillages 54 = .ok (.aload_n 0, 1) := by decide +kernel
theorem dX8_readVillages_55 : decode cX8_readVillages 55 = .ok (.iconst 2, 1) := by decide +kernel
theorem dX8_readVillages_56 : decode cX8_readVillages 56 = .ok (.iconst 1, 1) := by decide +kernel
theorem dX8_readVillages_57 : decode cX8_readVillages 57 = .ok (.bipush 99, 2) := by decide +kernel
theorem dX8_readVillages_59 : decode cX8_readVillages 59 = .ok (.invokevirtual 69, 3) := by decide +kernel
theorem dX8_readVillages_62 : decode cX8_readVillages 62 = .ok (.ifCond .eq 10, 3) := by decide +kernel
theorem dX8_readVillages_65 : decode cX8_readVillages 65 = .ok (.aload_n 0, 1) := by decide +kernel
theorem dX8_readVillages_66 : decode cX8_readVillages 66 = .ok (.invokevirtual 73, 3) := by decide +kernel
theorem dX8_readVillages_69 : decode cX8_readVillages 69 = .ok (.ifCond .ne 5, 3) := by decide +kernel
theorem dX8_readVillages_72 : decode cX8_readVillages 72 = .ok (.iconst 0, 1) := by decide +kernel
theorem dX8_readVillages_73 : decode cX8_readVillages 73 = .ok (.ireturn, 1) := by decide +kernel
theorem dX8_readVillages_74 : decode cX8_readVillages 74 = .ok (.aload_n 1, 1) := by decide +kernel
theorem dX8_readVillages_75 : decode cX8_readVillages 75 = .ok (.aload_n 0, 1) := by decide +kernel
theorem dX8_readVillages_76 : decode cX8_readVillages 76 = .ok (.getfield 15, 3) := by decide +kernel
theorem dX8_readVillages_79 : decode cX8_readVillages 79 = .ok (.iconst 0, 1) := by decide +kernel
theorem dX8_readVillages_80 : decode cX8_readVillages 80 = .ok (.iaload, 1) := by decide +kernel
theorem dX8_readVillages_81 : decode cX8_readVillages 81 = .ok (.aload_n 0, 1) := by decide +kernel
theorem dX8_readVillages_82 : decode cX8_readVillages 82 = .ok (.getfield 15, 3) := by decide +kernel
theorem dX8_readVillages_85 : decode cX8_readVillages 85 = .ok (.iconst 1, 1) := by decide +kernel
theorem dX8_readVillages_86 : decode cX8_readVillages 86 = .ok (.iaload, 1) := by decide +kernel
theorem dX8_readVillages_87 : decode cX8_readVillages 87 = .ok (.aload_n 0, 1) := by decide +kernel
theorem dX8_readVillages_88 : decode cX8_readVillages 88 = .ok (.getfield 15, 3) := by decide +kernel
theorem dX8_readVillages_91 : decode cX8_readVillages 91 = .ok (.iconst 2, 1) := by decide +kernel
theorem dX8_readVillages_92 : decode cX8_readVillages 92 = .ok (.iaload, 1) := by decide +kernel
theorem dX8_readVillages_93 : decode cX8_readVillages 93 = .ok (.invokevirtual 91, 3) := by decide +kernel
theorem dX8_readVillages_96 : decode cX8_readVillages 96 = .ok (.iinc 2 1, 3) := by decide +kernel
theorem dX8_readVillages_99 : decode cX8_readVillages 99 = .ok (.goto (-97), 3) := by decide +kernel
theorem dX8_readVillages_102 : decode cX8_readVillages 102 = .ok (.iconst 1, 1) := by decide +kernel
theorem dX8_readVillages_103 : decode cX8_readVillages 103 = .ok (.ireturn, 1) := by decide +kernel
theorem dX8_readGuards_0 : decode cX8_readGuards 0 = .ok (.iconst 0, 1) := by decide +kernel
theorem dX8_readGuards_1 : decode cX8_readGuards 1 = .ok (.istore_n 2, 1) := by decide +kernel
theorem dX8_readGuards_2 : decode cX8_readGuards 2 = .ok (.iload_n 2, 1) := by decide +kernel
theorem dX8_readGuards_3 : decode cX8_readGuards 3 = .ok (.bipush 8, 2) := by decide +kernel
theorem dX8_readGuards_5 : decode cX8_readGuards 5 = .ok (.if_icmp .gt 86, 3) := by decide +kernel
theorem dX8_readGuards_8 : decode cX8_readGuards 8 = .ok (.aload_n 0, 1) := by decide +kernel
theorem dX8_readGuards_9 : decode cX8_readGuards 9 = .ok (.ldc 95, 2) := by decide +kernel
theorem dX8_readGuards_11 : decode cX8_readGuards 11 = .ok (.invokevirtual 88, 3) := by decide +kernel
theorem dX8_readGuards_14 : decode cX8_readGuards 14 = .ok (.ifCond .eq 77, 3) := by decide +kernel
theorem dX8_readGuards_17 : decode cX8_readGuards 17 = .ok (.iload_n 2, 1) := by decide +kernel
theorem dX8_readGuards_18 : decode cX8_readGuards 18 = .ok (.bipush 8, 2) := by decide +kernel
theorem dX8_readGuards_20 : decode cX8_readGuards 20 = .ok (.if_icmp .ne 9, 3) := by decide +kernel
theorem dX8_readGuards_23 : decode cX8_readGuards 23 = .ok (.aload_n 0, 1) := by decide +kernel
theorem dX8_readGuards_24 : decode cX8_readGuards 24 = .ok (.iconst 3, 1) := by decide +kernel
theorem dX8_readGuards_25 : decode cX8_readGuards 25 = .ok (.invokevirtual 59, 3) := by decide +kernel
theorem dX8_readGuards_28 : decode cX8_readGuards 28 = .ok (.ireturn, 1) := by decide +kernel
theorem dX8_readGuards_29 : decode cX8_readGuards 29 = .ok (.aload_n 0, 1) := by decide +kernel
theorem dX8_readGuards_30 : decode cX8_readGuards 30 = .ok (.invokevirtual 43, 3) := by decide +kernel
theorem dX8_readGuards_33 : decode cX8_readGuards 33 = .ok (.aload_n 0, 1) := by decide +kernel
theorem dX8_readGuards_34 : decode cX8_readGuards 34 = .ok (.iconst 0, 1) := by decide +kernel
theorem dX8_readGuards_35 : decode cX8_readGuards 35 = .ok (.iconst 0, 1) := by decide +kernel
theorem dX8_readGuards_36 : decode cX8_readGuards 36 = .ok (.bipush 7, 2) := by decide +kernel
theorem dX8_readGuards_38 : decode cX8_readGuards 38 = .ok (.invokevirtual 69, 3) := by decide +kernel
theorem dX8_readGuards_41 : decode cX8_readGuards 41 = .ok (.ifCond .eq 20, 3) := by decide +kernel
theorem dX8_readGuards_44 : decode cX8_readGuards 44 = .ok (.aload_n 0, 1) := by decide +kernel
theorem dX8_readGuards_45 : decode cX8_readGuards 45 = .ok (.iconst 1, 1) := by decide +kernel
theorem dX8_readGuards_46 : decode cX8_readGuards 46 = .ok (.iconst 0, 1) := by decide +kernel
theorem dX8_readGuards_47 : decode cX8_readGuards 47 = .ok (.iconst 5, 1) := by decide +kernel
theorem dX8_readGuards_48 : decode cX8_readGuards 48 = .ok (.invokevirtual 69, 3) := by decide +kernel
theorem dX8_readGuards_51 : decode cX8_readGuards 51 = .ok (.ifCond .eq 10, 3) := by decide +kernel
theorem dX8_readGuards_54 : decode cX8_readGuards 54 = .ok (.aload_n 0, 1) := by decide +kernel
theorem dX8_readGuards_55 : decode cX8_readGuards 55 = .ok (.invokevirtual 73, 3) := by decide +kernel
theorem dX8_readGuards_58 : decode cX8_readGuards 58 = .ok (.ifCond .ne 5, 3) := by decide +kernel
theorem dX8_readGuards_61 : decode cX8_readGuards 61 = .ok (.iconst 0, 1) := by decide +kernel
theorem dX8_readGuards_62 : decode cX8_readGuards 62 = .ok (.ireturn, 1) := by decide +kernel
theorem dX8_readGuards_63 : decode cX8_readGuards 63 = .ok (.aload_n 1, 1) := by decide +kernel
theorem dX8_readGuards_64 : decode cX8_readGuards 64 = .ok (.getfield 97, 3) := by decide +kernel
theorem dX8_readGuards_67 : decode cX8_readGuards 67 = .ok (.bipush 8, 2) := by decide +kernel
theorem dX8_readGuards_69 : decode cX8_readGuards 69 = .ok (.aload_n 0, 1) := by decide +kernel
theorem dX8_readGuards_70 : decode cX8_readGuards 70 = .ok (.getfield 15, 3) := by decide +kernel
theorem dX8_readGuards_73 : decode cX8_readGuards 73 = .ok (.iconst 1, 1) := by decide +kernel
theorem dX8_readGuards_74 : decode cX8_readGuards 74 = .ok (.iaload, 1) := by decide +kernel
theorem dX8_readGuards_75 : decode cX8_readGuards 75 = .ok (.imul, 1) := by decide +kernel
theorem dX8_readGuards_76 : decode cX8_readGuards 76 = .ok (.aload_n 0, 1) := by decide +kernel
theorem dX8_readGuards_77 : decode cX8_readGuards 77 = .ok (.getfield 15, 3) := by decide +kernel
theorem dX8_readGuards_80 : decode cX8_readGuards 80 = .ok (.iconst 0, 1) := by decide +kernel
theorem dX8_readGuards_81 : decode cX8_readGuards 81 = .ok (.iaload, 1) := by decide +kernel
theorem dX8_readGuards_82 : decode cX8_readGuards 82 = .ok (.iadd, 1) := by decide +kernel
theorem dX8_readGuards_83 : decode cX8_readGuards 83 = .ok (.iconst 1, 1) := by decide +kernel
theorem dX8_readGuards_84 : decode cX8_readGuards 84 = .ok (.bastore, 1) := by decide +kernel
theorem dX8_readGuards_85 : decode cX8_readGuards 85 = .ok (.iinc 2 1, 3) := by decide +kernel
theorem dX8_readGuards_88 : decode cX8_readGuards 88 = .ok (.goto (-86), 3) := by decide +kernel
theorem dX8_readGuards_91 : decode cX8_readGuards 91 = .ok (.iconst 1, 1) := by decide +kernel
theorem dX8_readGuards_92 : decode cX8_readGuards 92 = .ok (.ireturn, 1) := by decide +kernel
theorem dX8_readPeople_0 : decode cX8_readPeople 0 = .ok (.iconst 0, 1) := by decide +kernel
theorem dX8_readPeople_1 : decode cX8_readPeople 1 = .ok (.istore_n 2, 1) := by decide +kernel
theorem dX8_readPeople_2 : decode cX8_readPeople 2 = .ok (.iload_n 2, 1) := by decide +kernel
theorem dX8_readPeople_3 : decode cX8_readPeople 3 = .ok (.iconst 5, 1) := by decide +kernel
theorem dX8_readPeople_4 : decode cX8_readPeople 4 = .ok (.if_icmp .gt 136, 3) := by decide +kernel
theorem dX8_readPeople_7 : decode cX8_readPeople 7 = .ok (.aload_n 0, 1) := by decide +kernel
theorem dX8_readPeople_8 : decode cX8_readPeople 8 = .ok (.ldc 101, 2) := by decide +kernel
theorem dX8_readPeople_10 : decode cX8_readPeople 10 = .ok (.invokevirtual 88, 3) := by decide +kernel
theorem dX8_readPeople_13 : decode cX8_readPeople 13 = .ok (.ifCond .eq 127, 3) := by decide +kernel
theorem dX8_readPeople_16 : decode cX8_readPeople 16 = .ok (.iload_n 2, 1) := by decide +kernel
theorem dX8_readPeople_17 : decode cX8_readPeople 17 = .ok (.iconst 5, 1) := by decide +kernel
theorem dX8_readPeople_18 : decode cX8_readPeople 18 = .ok (.if_icmp .ne 9, 3) := by decide +kernel
theorem dX8_readPeople_21 : decode cX8_readPeople 21 = .ok (.aload_n 0, 1) := by decide +kernel
theorem dX8_readPeople_22 : decode cX8_readPeople 22 = .ok (.iconst 3, 1) := by decide +kernel
theorem dX8_readPeople_23 : decode cX8_readPeople 23 = .ok (.invokevirtual 59, 3) := by decide +kernel
theorem dX8_readPeople_26 : decode cX8_readPeople 26 = .ok (.ireturn, 1) := by decide +kernel
theorem dX8_readPeople_27 : decode cX8_readPeople 27 = .ok (.aload_n 0, 1) := by decide +kernel
theorem dX8_readPeople_28 : decode cX8_readPeople 28 = .ok (.invokevirtual 43, 3) := by decide +kernel
theorem dX8_readPeople_31 : decode cX8_readPeople 31 = .ok (.aload_n 0, 1) := by decide +kernel
theorem dX8_readPeople_32 : decode cX8_readPeople 32 = .ok (.invokevirtual 103, 3) := by decide +kernel
theorem dX8_readPeople_35 : decode cX8_readPeople 35 = .ok (.istore_n 3, 1) := by decide +kernel
theorem dX8_readPeople_36 : decode cX8_readPeople 36 = .ok (.iload_n 3, 1) := by decide +kernel
theorem dX8_readPeople_37 : decode cX8_readPeople 37 = .ok (.ifCond .ne 9, 3) := by decide +kernel
theorem dX8_readPeople_40 : decode cX8_readPeople 40 = .ok (.aload_n 0, 1) := by decide +kernel
theorem dX8_readPeople_41 : decode cX8_readPeople 41 = .ok (.iconst 1, 1) := by decide +kernel
theorem dX8_readPeople_42 : decode cX8_readPeople 42 = .ok (.invokevirtual 59, 3) := by decide +kernel
theorem dX8_readPeople_45 : decode cX8_readPeople 45 = .ok (.ireturn, 1) := by decide +kernel
theorem dX8_readPeople_46 : decode cX8_readPeople 46 = .ok (.aload_n 0, 1) := by decide +kernel
theorem dX8_readPeople_47 : decode cX8_readPeople 47 = .ok (.invokevirtual 43, 3) := by decide +kernel
theorem dX8_readPeople_50 : decode cX8_readPeople 50 = .ok (.aload_n 0, 1) := by decide +kernel
theorem dX8_readPeople_51 : decode cX8_readPeople 51 = .ok (.iconst 3, 1) := by decide +kernel
theorem dX8_readPeople_52 : decode cX8_readPeople 52 = .ok (.iconst 0, 1) := by decide +kernel
theorem dX8_readPeople_53 : decode cX8_readPeople 53 = .ok (.iconst 1, 1) := by decide +kernel
theorem dX8_readPeople_54 : decode cX8_readPeople 54 = .ok (.invokevirtual 69, 3) := by decide +kernel
theorem dX8_readPeople_57 : decode cX8_readPeople 57 = .ok (.ifCond .eq 42, 3) := by decide +kernel
theorem dX8_readPeople_60 : decode cX8_readPeople 60 = .ok (.aload_n 0, 1) := by decide +kernel
theorem dX8_readPeople_61 : decode cX8_readPeople 61 = .ok (.iconst 0, 1) := by decide +kernel
theorem dX8_readPeople_62 : decode cX8_readPeople 62 = .ok (.iconst 0, 1) := by decide +kernel
theorem dX8_readPeople_63 : decode cX8_readPeople 63 = .ok (.bipush 7, 2) := by decide +kernel
theorem dX8_readPeople_65 : decode cX8_readPeople 65 = .ok (.invokevirtual 69, 3) := by decide +kernel
theorem dX8_readPeople_68 : decode cX8_readPeople 68 = .ok (.ifCond .eq 31, 3) := by decide +kernel
theorem dX8_readPeople_71 : decode cX8_readPeople 71 = .ok (.aload_n 0, 1) := by decide +kernel
theorem dX8_readPeople_72 : decode cX8_readPeople 72 = .ok (.iconst 1, 1) := by decide +kernel
theorem dX8_readPeople_73 : decode cX8_readPeople 73 = .ok (.iconst 0, 1) := by decide +kernel
theorem dX8_readPeople_74 : decode cX8_readPeople 74 = .ok (.iconst 5, 1) := by decide +kernel
theorem dX8_readPeople_75 : decode cX8_readPeople 75 = .ok (.invokevirtual 69, 3) := by decide +kernel
theorem dX8_readPeople_78 : decode cX8_readPeople 78 = .ok (.ifCond .eq 21, 3) := by decide +kernel
theorem dX8_readPeople_81 : decode cX8_readPeople 81 = .ok (.aload_n 0, 1) := by decide +kernel
theorem dX8_readPeople_82 : decode cX8_readPeople 82 = .ok (.iconst 2, 1) := by decide +kernel
theorem dX8_readPeople_83 : decode cX8_readPeople 83 = .ok (.iconst 0, 1) := by decide +kernel
theorem dX8_readPeople_84 : decode cX8_readPeople 84 = .ok (.bipush 13, 2) := by decide +kernel
theorem dX8_readPeople_86 : decode cX8_readPeople 86 = .ok (.invokevirtual 69, 3) := by decide +kernel
theorem dX8_readPeople_89 : decode cX8_readPeople 89 = .ok (.ifCond .eq 10, 3) := by decide +kernel
theorem dX8_readPeople_92 : decode cX8_readPeople 92 = .ok (.aload_n 0, 1) := by decide +kernel
theorem dX8_readPeople_93 : decode cX8_readPeople 93 = .ok (.invokevirtual 73, 3) := by decide +kernel
theorem dX8_readPeople_96 : decode cX8_readPeople 96 = .ok (.ifCond .ne 5, 3) := by decide +kernel
theorem dX8_readPeople_99 : decode cX8_readPeople 99 = .ok (.iconst 0, 1) := by decide +kernel
theorem dX8_readPeople_100 : decode cX8_readPeople 100 = .ok (.ireturn, 1) := by decide +kernel
theorem dX8_readPeople_101 : decode cX8_readPeople 101 = .ok (.aload_n 1, 1) := by decide +kernel
theorem dX8_readPeople_102 : decode cX8_readPeople 102 = .ok (.iload_n 3, 1) := by decide +kernel
theorem dX8_readPeople_103 : decode cX8_readPeople 103 = .ok (.aload_n 0, 1) := by decide +kernel
theorem dX8_readPeople_104 : decode cX8_readPeople 104 = .ok (.getfield 15, 3) := by decide +kernel
theorem dX8_readPeople_107 : decode cX8_readPeople 107 = .ok (.iconst 3, 1) := by decide +kernel
theorem dX8_readPeople_108 : decode cX8_readPeople 108 = .ok (.iaload, 1) := by decide +kernel
theorem dX8_readPeople_109 : decode cX8_readPeople 109 = .ok (.bipush 8, 2) := by decide +kernel
theorem dX8_readPeople_111 : decode cX8_readPeople 111 = .ok (.aload_n 0, 1) := by decide +kernel
theorem dX8_readPeople_112 : decode cX8_readPeople 112 = .ok (.getfield 15, 3) := by decide +kernel
theorem dX8_readPeople_115 : decode cX8_readPeople 115 = .ok (.iconst 1, 1) := by decide +kernel
theorem dX8_readPeople_116 : decode cX8_readPeople 116 = .ok (.iaload, 1) := by decide +kernel
theorem dX8_readPeople_117 : decode cX8_readPeople 117 = .ok (.imul, 1) := by decide +kernel
theorem dX8_readPeople_118 : decode cX8_readPeople 118 = .ok (.aload_n 0, 1) := by decide +kernel
theorem dX8_readPeople_119 : decode cX8_readPeople 119 = .ok (.getfield 15, 3) := by decide +kernel
theorem dX8_readPeople_122 : decode cX8_readPeople 122 = .ok (.iconst 0, 1) := by decide +kernel
theorem dX8_readPeople_123 : decode cX8_readPeople 123 = .ok (.iaload, 1) := by decide +kernel
theorem dX8_readPeople_124 : decode cX8_readPeople 124 = .ok (.iadd, 1) := by decide +kernel
theorem dX8_readPeople_125 : decode cX8_readPeople 125 = .ok (.aload_n 0, 1) := by decide +kernel
theorem dX8_readPeople_126 : decode cX8_readPeople 126 = .ok (.getfield 15, 3) := by decide +kernel
theorem dX8_readPeople_129 : decode cX8_readPeople 129 = .ok (.iconst 2, 1) := by decide +kernel
theorem dX8_readPeople_130 : decode cX8_readPeople 130 = .ok (.iaload, 1) := by decide +kernel
theorem dX8_readPeople_131 : decode cX8_readPeople 131 = .ok (.invokevirtual 107, 3) := by decide +kernel
theorem dX8_readPeople_134 : decode cX8_readPeople 134 = .ok (.iinc 2 1, 3) := by decide +kernel
theorem dX8_readPeople_137 : decode cX8_readPeople 137 = .ok (.goto (-135), 3) := by decide +kernel
theorem dX8_readPeople_140 : decode cX8_readPeople 140 = .ok (.iconst 1, 1) := by decide +kernel
theorem dX8_readPeople_141 : decode cX8_readPeople 141 = .ok (.ireturn, 1) := by decide +kernel
theorem dX8_kindTold_0 : decode cX8_kindTold 0 = .ok (.aload_n 0, 1) := by decide +kernel
theorem dX8_kindTold_1 : decode cX8_kindTold 1 = .ok (.ldc 111, 2) := by decide +kernel
theorem dX8_kindTold_3 : decode cX8_kindTold 3 = .ok (.invokevirtual 88, 3) := by decide +kernel
theorem dX8_kindTold_6 : decode cX8_kindTold 6 = .ok (.ifCond .eq 7, 3) := by decide +kernel
theorem dX8_kindTold_9 : decode cX8_kindTold 9 = .ok (.iconst 1, 1) := by decide +kernel
theorem dX8_kindTold_10 : decode cX8_kindTold 10 = .ok (.goto 56, 3) := by decide +kernel
theorem dX8_kindTold_13 : decode cX8_kindTold 13 = .ok (.aload_n 0, 1) := by decide +kernel
theorem dX8_kindTold_14 : decode cX8_kindTold 14 = .ok (.ldc 115, 2) := by decide +kernel
theorem dX8_kindTold_16 : decode cX8_kindTold 16 = .ok (.invokevirtual 88, 3) := by decide +kernel
theorem dX8_kindTold_19 : decode cX8_kindTold 19 = .ok (.ifCond .eq 7, 3) := by decide +kernel
theorem dX8_kindTold_22 : decode cX8_kindTold 22 = .ok (.iconst 2, 1) := by decide +kernel
theorem dX8_kindTold_23 : decode cX8_kindTold 23 = .ok (.goto 43, 3) := by decide +kernel
theorem dX8_kindTold_26 : decode cX8_kindTold 26 = .ok (.aload_n 0, 1) := by decide +kernel
theorem dX8_kindTold_27 : decode cX8_kindTold 27 = .ok (.ldc 119, 2) := by decide +kernel
theorem dX8_kindTold_29 : decode cX8_kindTold 29 = .ok (.invokevirtual 88, 3) := by decide +kernel
theorem dX8_kindTold_32 : decode cX8_kindTold 32 = .ok (.ifCond .eq 7, 3) := by decide +kernel
theorem dX8_kindTold_35 : decode cX8_kindTold 35 = .ok (.iconst 3, 1) := by decide +kernel
theorem dX8_kindTold_36 : decode cX8_kindTold 36 = .ok (.goto 30, 3) := by decide +kernel
theorem dX8_kindTold_39 : decode cX8_kindTold 39 = .ok (.aload_n 0, 1) := by decide +kernel
theorem dX8_kindTold_40 : decode cX8_kindTold 40 = .ok (.ldc 123, 2) := by decide +kernel
theorem dX8_kindTold_42 : decode cX8_kindTold 42 = .ok (.invokevirtual 88, 3) := by decide +kernel
theorem dX8_kindTold_45 : decode cX8_kindTold 45 = .ok (.ifCond .eq 7, 3) := by decide +kernel
theorem dX8_kindTold_48 : decode cX8_kindTold 48 = .ok (.iconst 4, 1) := by decide +kernel
theorem dX8_kindTold_49 : decode cX8_kindTold 49 = .ok (.goto 17, 3) := by decide +kernel
theorem dX8_kindTold_52 : decode cX8_kindTold 52 = .ok (.aload_n 0, 1) := by decide +kernel
theorem dX8_kindTold_53 : decode cX8_kindTold 53 = .ok (.ldc 127, 2) := by decide +kernel
theorem dX8_kindTold_55 : decode cX8_kindTold 55 = .ok (.invokevirtual 88, 3) := by decide +kernel
theorem dX8_kindTold_58 : decode cX8_kindTold 58 = .ok (.ifCond .eq 7, 3) := by decide +kernel
theorem dX8_kindTold_61 : decode cX8_kindTold 61 = .ok (.iconst 5, 1) := by decide +kernel
theorem dX8_kindTold_62 : decode cX8_kindTold 62 = .ok (.goto 4, 3) := by decide +kernel
theorem dX8_kindTold_65 : decode cX8_kindTold 65 = .ok (.iconst 0, 1) := by decide +kernel
theorem dX8_kindTold_66 : decode cX8_kindTold 66 = .ok (.ireturn, 1) := by decide +kernel
theorem dX8_word_0 : decode cX8_word 0 = .ok (.aload_n 0, 1) := by decide +kernel
theorem dX8_word_1 : decode cX8_word 1 = .ok (.aload_n 1, 1) := by decide +kernel
theorem dX8_word_2 : decode cX8_word 2 = .ok (.invokevirtual 88, 3) := by decide +kernel
theorem dX8_word_5 : decode cX8_word 5 = .ok (.ifCond .ne 9, 3) := by decide +kernel
theorem dX8_word_8 : decode cX8_word 8 = .ok (.aload_n 0, 1) := by decide +kernel
theorem dX8_word_9 : decode cX8_word 9 = .ok (.iconst 1, 1) := by decide +kernel
theorem dX8_word_10 : decode cX8_word 10 = .ok (.invokevirtual 59, 3) := by decide +kernel
theorem dX8_word_13 : decode cX8_word 13 = .ok (.ireturn, 1) := by decide +kernel
theorem dX8_word_14 : decode cX8_word 14 = .ok (.aload_n 0, 1) := by decide +kernel
theorem dX8_word_15 : decode cX8_word 15 = .ok (.invokevirtual 43, 3) := by decide +kernel
theorem dX8_word_18 : decode cX8_word 18 = .ok (.iconst 1, 1) := by decide +kernel
theorem dX8_word_19 : decode cX8_word 19 = .ok (.ireturn, 1) := by decide +kernel
theorem dX8_number_0 : decode cX8_number 0 = .ok (.aload_n 0, 1) := by decide +kernel
theorem dX8_number_1 : decode cX8_number 1 = .ok (.getfield 28, 3) := by decide +kernel
theorem dX8_number_4 : decode cX8_number 4 = .ok (.iconst 2, 1) := by decide +kernel
theorem dX8_number_5 : decode cX8_number 5 = .ok (.if_icmp .eq 9, 3) := by decide +kernel
theorem dX8_number_8 : decode cX8_number 8 = .ok (.aload_n 0, 1) := by decide +kernel
theorem dX8_number_9 : decode cX8_number 9 = .ok (.iconst 1, 1) := by decide +kernel
theorem dX8_number_10 : decode cX8_number 10 = .ok (.invokevirtual 59, 3) := by decide +kernel
theorem dX8_number_13 : decode cX8_number 13 = .ok (.ireturn, 1) := by decide +kernel
theorem dX8_number_14 : decode cX8_number 14 = .ok (.aload_n 0, 1) := by decide +kernel
theorem dX8_number_15 : decode cX8_number 15 = .ok (.getfield 37, 3) := by decide +kernel
theorem dX8_number_18 : decode cX8_number 18 = .ok (.iload_n 2, 1) := by decide +kernel
theorem dX8_number_19 : decode cX8_number 19 = .ok (.if_icmp .lt 11, 3) := by decide +kernel
theorem dX8_number_22 : decode cX8_number 22 = .ok (.aload_n 0, 1) := by decide +kernel
theorem dX8_number_23 : decode cX8_number 23 = .ok (.getfield 37, 3) := by decide +kernel
theorem dX8_number_26 : decode cX8_number 26 = .ok (.iload_n 3, 1) := by decide +kernel
theorem dX8_number_27 : decode cX8_number 27 = .ok (.if_icmp .le 9, 3) := by decide +kernel
theorem dX8_number_30 : decode cX8_number 30 = .ok (.aload_n 0, 1) := by decide +kernel
theorem dX8_number_31 : decode cX8_number 31 = .ok (.iconst 2, 1) := by decide +kernel
theorem dX8_number_32 : decode cX8_number 32 = .ok (.invokevirtual 59, 3) := by decide +kernel
theorem dX8_number_35 : decode cX8_number 35 = .ok (.ireturn, 1) := by decide +kernel
theorem dX8_number_36 : decode cX8_number 36 = .ok (.aload_n 0, 1) := by decide +kernel
theorem dX8_number_37 : decode cX8_number 37 = .ok (.getfield 15, 3) := by decide +kernel
theorem dX8_number_40 : decode cX8_number 40 = .ok (.iload_n 1, 1) := by decide +kernel
theorem dX8_number_41 : decode cX8_number 41 = .ok (.aload_n 0, 1) := by decide +kernel
theorem dX8_number_42 : decode cX8_number 42 = .ok (.getfield 37, 3) := by decide +kernel
theorem dX8_number_45 : decode cX8_number 45 = .ok (.iastore, 1) := by decide +kernel
theorem dX8_number_46 : decode cX8_number 46 = .ok (.aload_n 0, 1) := by decide +kernel
theorem dX8_number_47 : decode cX8_number 47 = .ok (.invokevirtual 43, 3) := by decide +kernel
theorem dX8_number_50 : decode cX8_number 50 = .ok (.iconst 1, 1) := by decide +kernel
theorem dX8_number_51 : decode cX8_number 51 = .ok (.ireturn, 1) := by decide +kernel
theorem dX8_sign_0 : decode cX8_sign 0 = .ok (.aload_n 0, 1) := by decide +kernel
theorem dX8_sign_1 : decode cX8_sign 1 = .ok (.getfield 28, 3) := by decide +kernel
theorem dX8_sign_4 : decode cX8_sign 4 = .ok (.iconst 3, 1) := by decide +kernel
theorem dX8_sign_5 : decode cX8_sign 5 = .ok (.if_icmp .eq 9, 3) := by decide +kernel
theorem dX8_sign_8 : decode cX8_sign 8 = .ok (.aload_n 0, 1) := by decide +kernel
theorem dX8_sign_9 : decode cX8_sign 9 = .ok (.iconst 1, 1) := by decide +kernel
theorem dX8_sign_10 : decode cX8_sign 10 = .ok (.invokevirtual 59, 3) := by decide +kernel
theorem dX8_sign_13 : decode cX8_sign 13 = .ok (.ireturn, 1) := by decide +kernel
theorem dX8_sign_14 : decode cX8_sign 14 = .ok (.aload_n 0, 1) := by decide +kernel
theorem dX8_sign_15 : decode cX8_sign 15 = .ok (.invokevirtual 43, 3) := by decide +kernel
theorem dX8_sign_18 : decode cX8_sign 18 = .ok (.iconst 1, 1) := by decide +kernel
theorem dX8_sign_19 : decode cX8_sign 19 = .ok (.ireturn, 1) := by decide +kernel
theorem dX8_fails_0 : decode cX8_fails 0 = .ok (.aload_n 0, 1) := by decide +kernel
theorem dX8_fails_1 : decode cX8_fails 1 = .ok (.iload_n 1, 1) := by decide +kernel
theorem dX8_fails_2 : decode cX8_fails 2 = .ok (.putfield 22, 3) := by decide +kernel
theorem dX8_fails_5 : decode cX8_fails 5 = .ok (.aload_n 0, 1) := by decide +kernel
theorem dX8_fails_6 : decode cX8_fails 6 = .ok (.aload_n 0, 1) := by decide +kernel
theorem dX8_fails_7 : decode cX8_fails 7 = .ok (.getfield 31, 3) := by decide +kernel
theorem dX8_fails_10 : decode cX8_fails 10 = .ok (.putfield 25, 3) := by decide +kernel
theorem dX8_fails_13 : decode cX8_fails 13 = .ok (.iconst 0, 1) := by decide +kernel
theorem dX8_fails_14 : decode cX8_fails 14 = .ok (.ireturn, 1) := by decide +kernel
theorem dX8_isWord_0 : decode cX8_isWord 0 = .ok (.aload_n 0, 1) := by decide +kernel
theorem dX8_isWord_1 : decode cX8_isWord 1 = .ok (.getfield 28, 3) := by decide +kernel
theorem dX8_isWord_4 : decode cX8_isWord 4 = .ok (.iconst 1, 1) := by decide +kernel
theorem dX8_isWord_5 : decode cX8_isWord 5 = .ok (.if_icmp .ne 19, 3) := by decide +kernel
theorem dX8_isWord_8 : decode cX8_isWord 8 = .ok (.aload_n 0, 1) := by decide +kernel
theorem dX8_isWord_9 : decode cX8_isWord 9 = .ok (.getfield 34, 3) := by decide +kernel
theorem dX8_isWord_12 : decode cX8_isWord 12 = .ok (.aload_n 0, 1) := by decide +kernel
theorem dX8_isWord_13 : decode cX8_isWord 13 = .ok (.getfield 31, 3) := by decide +kernel
theorem dX8_isWord_16 : decode cX8_isWord 16 = .ok (.isub, 1) := by decide +kernel
theorem dX8_isWord_17 : decode cX8_isWord 17 = .ok (.aload_n 1, 1) := by decide +kernel
theorem dX8_isWord_18 : decode cX8_isWord 18 = .ok (.invokevirtual 131, 3) := by decide +kernel
theorem dX8_isWord_21 : decode cX8_isWord 21 = .ok (.if_icmp .eq 5, 3) := by decide +kernel
theorem dX8_isWord_24 : decode cX8_isWord 24 = .ok (.iconst 0, 1) := by decide +kernel
theorem dX8_isWord_25 : decode cX8_isWord 25 = .ok (.ireturn, 1) := by decide +kernel
theorem dX8_isWord_26 : decode cX8_isWord 26 = .ok (.iconst 0, 1) := by decide +kernel
theorem dX8_isWord_27 : decode cX8_isWord 27 = .ok (.istore_n 2, 1) := by decide +kernel
theorem dX8_isWord_28 : decode cX8_isWord 28 = .ok (.iload_n 2, 1) := by decide +kernel
theorem dX8_isWord_29 : decode cX8_isWord 29 = .ok (.aload_n 1, 1) := by decide +kernel
theorem dX8_isWord_30 : decode cX8_isWord 30 = .ok (.invokevirtual 131, 3) := by decide +kernel
theorem dX8_isWord_33 : decode cX8_isWord 33 = .ok (.if_icmp .ge 30, 3) := by decide +kernel
theorem dX8_isWord_36 : decode cX8_isWord 36 = .ok (.aload_n 0, 1) := by decide +kernel
theorem dX8_isWord_37 : decode cX8_isWord 37 = .ok (.getfield 11, 3) := by decide +kernel
theorem dX8_isWord_40 : decode cX8_isWord 40 = .ok (.aload_n 0, 1) := by decide +kernel
theorem dX8_isWord_41 : decode cX8_isWord 41 = .ok (.getfield 31, 3) := by decide +kernel
theorem dX8_isWord_44 : decode cX8_isWord 44 = .ok (.iload_n 2, 1) := by decide +kernel
theorem dX8_isWord_45 : decode cX8_isWord 45 = .ok (.iadd, 1) := by decide +kernel
theorem dX8_isWord_46 : decode cX8_isWord 46 = .ok (.iaload, 1) := by decide +kernel
theorem dX8_isWord_47 : decode cX8_isWord 47 = .ok (.aload_n 1, 1) := by decide +kernel
theorem dX8_isWord_48 : decode cX8_isWord 48 = .ok (.iload_n 2, 1) := by decide +kernel
theorem dX8_isWord_49 : decode cX8_isWord 49 = .ok (.invokevirtual 136, 3) := by decide +kernel
theorem dX8_isWord_52 : decode cX8_isWord 52 = .ok (.if_icmp .eq 5, 3) := by decide +kernel
theorem dX8_isWord_55 : decode cX8_isWord 55 = .ok (.iconst 0, 1) := by decide +kernel
theorem dX8_isWord_56 : decode cX8_isWord 56 = .ok (.ireturn, 1) := by decide +kernel
theorem dX8_isWord_57 : decode cX8_isWord 57 = .ok (.iinc 2 1, 3) := by decide +kernel
theorem dX8_isWord_60 : decode cX8_isWord 60 = .ok (.goto (-32), 3) := by decide +kernel
theorem dX8_isWord_63 : decode cX8_isWord 63 = .ok (.iconst 1, 1) := by decide +kernel
theorem dX8_isWord_64 : decode cX8_isWord 64 = .ok (.ireturn, 1) := by decide +kernel
theorem dX8_step_0 : decode cX8_step 0 = .ok (.aload_n 0, 1) := by decide +kernel
theorem dX8_step_1 : decode cX8_step 1 = .ok (.aload_n 0, 1) := by decide +kernel
theorem dX8_step_2 : decode cX8_step 2 = .ok (.getfield 34, 3) := by decide +kernel
theorem dX8_step_5 : decode cX8_step 5 = .ok (.putfield 31, 3) := by decide +kernel
theorem dX8_step_8 : decode cX8_step 8 = .ok (.aload_n 0, 1) := by decide +kernel
theorem dX8_step_9 : decode cX8_step 9 = .ok (.getfield 31, 3) := by decide +kernel
theorem dX8_step_12 : decode cX8_step 12 = .ok (.aload_n 0, 1) := by decide +kernel
theorem dX8_step_13 : decode cX8_step 13 = .ok (.getfield 18, 3) := by decide +kernel
theorem dX8_step_16 : decode cX8_step 16 = .ok (.if_icmp .ge 31, 3) := by decide +kernel
theorem dX8_step_19 : decode cX8_step 19 = .ok (.aload_n 0, 1) := by decide +kernel
theorem dX8_step_20 : decode cX8_step 20 = .ok (.getfield 11, 3) := by decide +kernel
theorem dX8_step_23 : decode cX8_step 23 = .ok (.aload_n 0, 1) := by decide +kernel
theorem dX8_step_24 : decode cX8_step 24 = .ok (.getfield 31, 3) := by decide +kernel
theorem dX8_step_27 : decode cX8_step 27 = .ok (.iaload, 1) := by decide +kernel
theorem dX8_step_28 : decode cX8_step 28 = .ok (.invokestatic 140, 3) := by decide +kernel
theorem dX8_step_31 : decode cX8_step 31 = .ok (.ifCond .eq 16, 3) := by decide +kernel
theorem dX8_step_34 : decode cX8_step 34 = .ok (.aload_n 0, 1) := by decide +kernel
theorem dX8_step_35 : decode cX8_step 35 = .ok (.dup, 1) := by decide +kernel
theorem dX8_step_36 : decode cX8_step 36 = .ok (.getfield 31, 3) := by decide +kernel
theorem dX8_step_39 : decode cX8_step 39 = .ok (.iconst 1, 1) := by decide +kernel
theorem dX8_step_40 : decode cX8_step 40 = .ok (.iadd, 1) := by decide +kernel
theorem dX8_step_41 : decode cX8_step 41 = .ok (.putfield 31, 3) := by decide +kernel
theorem dX8_step_44 : decode cX8_step 44 = .ok (.goto (-36), 3) := by decide +kernel
theorem dX8_step_47 : decode cX8_step 47 = .ok (.aload_n 0, 1) := by decide +kernel
theorem dX8_step_48 : decode cX8_step 48 = .ok (.aload_n 0, 1) := by decide +kernel
theorem dX8_step_49 : decode cX8_step 49 = .ok (.getfield 31, 3) := by decide +kernel
theorem dX8_step_52 : decode cX8_step 52 = .ok (.putfield 34, 3) := by decide +kernel
theorem dX8_step_55 : decode cX8_step 55 = .ok (.aload_n 0, 1) := by decide +kernel
theorem dX8_step_56 : decode cX8_step 56 = .ok (.getfield 31, 3) := by decide +kernel
theorem dX8_step_59 : decode cX8_step 59 = .ok (.aload_n 0, 1) := by decide +kernel
theorem dX8_step_60 : decode cX8_step 60 = .ok (.getfield 18, 3) := by decide +kernel
theorem dX8_step_63 : decode cX8_step 63 = .ok (.if_icmp .lt 11, 3) := by decide +kernel
theorem dX8_step_66 : decode cX8_step 66 = .ok (.aload_n 0, 1) := by decide +kernel
theorem dX8_step_67 : decode cX8_step 67 = .ok (.iconst 0, 1) := by decide +kernel
theorem dX8_step_68 : decode cX8_step 68 = .ok (.putfield 28, 3) := by decide +kernel
theorem dX8_step_71 : decode cX8_step 71 = .ok (.goto 80, 3) := by decide +kernel
theorem dX8_step_74 : decode cX8_step 74 = .ok (.aload_n 0, 1) := by decide +kernel
theorem dX8_step_75 : decode cX8_step 75 = .ok (.getfield 11, 3) := by decide +kernel
theorem dX8_step_78 : decode cX8_step 78 = .ok (.aload_n 0, 1) := by decide +kernel
theorem dX8_step_79 : decode cX8_step 79 = .ok (.getfield 31, 3) := by decide +kernel
theorem dX8_step_82 : decode cX8_step 82 = .ok (.iaload, 1) := by decide +kernel
theorem dX8_step_83 : decode cX8_step 83 = .ok (.invokestatic 143, 3) := by decide +kernel
theorem dX8_step_86 : decode cX8_step 86 = .ok (.ifCond .eq 10, 3) := by decide +kernel
theorem dX8_step_89 : decode cX8_step 89 = .ok (.aload_n 0, 1) := by decide +kernel
theorem dX8_step_90 : decode cX8_step 90 = .ok (.invokevirtual 146, 3) := by decide +kernel
theorem dX8_step_93 : decode cX8_step 93 = .ok (.goto 58, 3) := by decide +kernel
theorem dX8_step_96 : decode cX8_step 96 = .ok (.aload_n 0, 1) := by decide +kernel
theorem dX8_step_97 : decode cX8_step 97 = .ok (.getfield 11, 3) := by decide +kernel
theorem dX8_step_100 : decode cX8_step 100 = .ok (.aload_n 0, 1) := by decide +kernel
theorem dX8_step_101 : decode cX8_step 101 = .ok (.getfield 31, 3) := by decide +kernel
theorem dX8_step_104 : decode cX8_step 104 = .ok (.iaload, 1) := by decide +kernel
theorem dX8_step_105 : decode cX8_step 105 = .ok (.invokestatic 149, 3) := by decide +kernel
theorem dX8_step_108 : decode cX8_step 108 = .ok (.ifCond .eq 10, 3) := by decide +kernel
theorem dX8_step_111 : decode cX8_step 111 = .ok (.aload_n 0, 1) := by decide +kernel
theorem dX8_step_112 : decode cX8_step 112 = .ok (.invokevirtual 152, 3) := by decide +kernel
theorem dX8_step_115 : decode cX8_step 115 = .ok (.goto 36, 3) := by decide +kernel
theorem dX8_step_118 : decode cX8_step 118 = .ok (.aload_n 0, 1) := by decide +kernel
theorem dX8_step_119 : decode cX8_step 119 = .ok (.aload_n 0, 1) := by decide +kernel
theorem dX8_step_120 : decode cX8_step 120 = .ok (.getfield 11, 3) := by decide +kernel
theorem dX8_step_123 : decode cX8_step 123 = .ok (.aload_n 0, 1) := by decide +kernel
theorem dX8_step_124 : decode cX8_step 124 = .ok (.getfield 31, 3) := by decide +kernel
theorem dX8_step_127 : decode cX8_step 127 = .ok (.iaload, 1) := by decide +kernel
theorem dX8_step_128 : decode cX8_step 128 = .ok (.bipush 59, 2) := by decide +kernel
theorem dX8_step_130 : decode cX8_step 130 = .ok (.if_icmp .ne 7, 3) := by decide +kernel
theorem dX8_step_133 : decode cX8_step 133 = .ok (.iconst 3, 1) := by decide +kernel
theorem dX8_step_134 : decode cX8_step 134 = .ok (.goto 4, 3) := by decide +kernel
theorem dX8_step_137 : decode cX8_step 137 = .ok (.iconst 4, 1) := by decide +kernel
theorem dX8_step_138 : decode cX8_step 138 = .ok (.putfield 28, 3) := by decide +kernel
theorem dX8_step_141 : decode cX8_step 141 = .ok (.aload_n 0, 1) := by decide +kernel
theorem dX8_step_142 : decode cX8_step 142 = .ok (.aload_n 0, 1) := by decide +kernel
theorem dX8_step_143 : decode cX8_step 143 = .ok (.getfield 31, 3) := by decide +kernel
theorem dX8_step_146 : decode cX8_step 146 = .ok (.iconst 1, 1) := by decide +kernel
theorem dX8_step_147 : decode cX8_step 147 = .ok (.iadd, 1) := by decide +kernel
theorem dX8_step_148 : decode cX8_step 148 = .ok (.putfield 34, 3) := by decide +kernel
theorem dX8_step_151 : decode cX8_step 151 = .ok (.return_, 1) := by decide +kernel
theorem dX8_stepOverName_0 : decode cX8_stepOverName 0 = .ok (.aload_n 0, 1) := by decide +kernel
theorem dX8_stepOverName_1 : decode cX8_stepOverName 1 = .ok (.getfield 34, 3) := by decide +kernel
theorem dX8_stepOverName_4 : decode cX8_stepOverName 4 = .ok (.aload_n 0, 1) := by decide +kernel
theorem dX8_stepOverName_5 : decode cX8_stepOverName 5 = .ok (.getfield 18, 3) := by decide +kernel
theorem dX8_stepOverName_8 : decode cX8_stepOverName 8 = .ok (.if_icmp .ge 31, 3) := by decide +kernel
theorem dX8_stepOverName_11 : decode cX8_stepOverName 11 = .ok (.aload_n 0, 1) := by decide +kernel
theorem dX8_stepOverName_12 : decode cX8_stepOverName 12 = .ok (.getfield 11, 3) := by decide +kernel
theorem dX8_stepOverName_15 : decode cX8_stepOverName 15 = .ok (.aload_n 0, 1) := by decide +kernel
theorem dX8_stepOverName_16 : decode cX8_stepOverName 16 = .ok (.getfield 34, 3) := by decide +kernel
theorem dX8_stepOverName_19 : decode cX8_stepOverName 19 = .ok (.iaload, 1) := by decide +kernel
theorem dX8_stepOverName_20 : decode cX8_stepOverName 20 = .ok (.invokestatic 143, 3) := by decide +kernel
theorem dX8_stepOverName_23 : decode cX8_stepOverName 23 = .ok (.ifCond .eq 16, 3) := by decide +kernel
theorem dX8_stepOverName_26 : decode cX8_stepOverName 26 = .ok (.aload_n 0, 1) := by decide +kernel
theorem dX8_stepOverName_27 : decode cX8_stepOverName 27 = .ok (.dup, 1) := by decide +kernel
theorem dX8_stepOverName_28 : decode cX8_stepOverName 28 = .ok (.getfield 34, 3) := by decide +kernel
theorem dX8_stepOverName_31 : decode cX8_stepOverName 31 = .ok (.iconst 1, 1) := by decide +kernel
theorem dX8_stepOverName_32 : decode cX8_stepOverName 32 = .ok (.iadd, 1) := by decide +kernel
theorem dX8_stepOverName_33 : decode cX8_stepOverName 33 = .ok (.putfield 34, 3) := by decide +kernel
theorem dX8_stepOverName_36 : decode cX8_stepOverName 36 = .ok (.goto (-36), 3) := by decide +kernel
theorem dX8_stepOverName_39 : decode cX8_stepOverName 39 = .ok (.aload_n 0, 1) := by decide +kernel
theorem dX8_stepOverName_40 : decode cX8_stepOverName 40 = .ok (.iconst 1, 1) := by decide +kernel
theorem dX8_stepOverName_41 : decode cX8_stepOverName 41 = .ok (.putfield 28, 3) := by decide +kernel
theorem dX8_stepOverName_44 : decode cX8_stepOverName 44 = .ok (.return_, 1) := by decide +kernel
theorem dX8_stepOverNumber_0 : decode cX8_stepOverNumber 0 = .ok (.aload_n 0, 1) := by decide +kernel
theorem dX8_stepOverNumber_1 : decode cX8_stepOverNumber 1 = .ok (.iconst 0, 1) := by decide +kernel
theorem dX8_stepOverNumber_2 : decode cX8_stepOverNumber 2 = .ok (.putfield 37, 3) := by decide +kernel
theorem dX8_stepOverNumber_5 : decode cX8_stepOverNumber 5 = .ok (.aload_n 0, 1) := by decide +kernel
theorem dX8_stepOverNumber_6 : decode cX8_stepOverNumber 6 = .ok (.getfield 34, 3) := by decide +kernel
theorem dX8_stepOverNumber_9 : decode cX8_stepOverNumber 9 = .ok (.aload_n 0, 1) := by decide +kernel
theorem dX8_stepOverNumber_10 : decode cX8_stepOverNumber 10 = .ok (.getfield 18, 3) := by decide +kernel
theorem dX8_stepOverNumber_13 : decode cX8_stepOverNumber 13 = .ok (.if_icmp .ge 55, 3) := by decide +kernel
theorem dX8_stepOverNumber_16 : decode cX8_stepOverNumber 16 = .ok (.aload_n 0, 1) := by decide +kernel
theorem dX8_stepOverNumber_17 : decode cX8_stepOverNumber 17 = .ok (.getfield 11, 3) := by decide +kernel
theorem dX8_stepOverNumber_20 : decode cX8_stepOverNumber 20 = .ok (.aload_n 0, 1) := by decide +kernel
theorem dX8_stepOverNumber_21 : decode cX8_stepOverNumber 21 = .ok (.getfield 34, 3) := by decide +kernel
theorem dX8_stepOverNumber_24 : decode cX8_stepOverNumber 24 = .ok (.iaload, 1) := by decide +kernel
theorem dX8_stepOverNumber_25 : decode cX8_stepOverNumber 25 = .ok (.invokestatic 149, 3) := by decide +kernel
theorem dX8_stepOverNumber_28 : decode cX8_stepOverNumber 28 = .ok (.ifCond .eq 40, 3) := by decide +kernel
theorem dX8_stepOverNumber_31 : decode cX8_stepOverNumber 31 = .ok (.aload_n 0, 1) := by decide +kernel
theorem dX8_stepOverNumber_32 : decode cX8_stepOverNumber 32 = .ok (.bipush 10, 2) := by decide +kernel
theorem dX8_stepOverNumber_34 : decode cX8_stepOverNumber 34 = .ok (.aload_n 0, 1) := by decide +kernel
theorem dX8_stepOverNumber_35 : decode cX8_stepOverNumber 35 = .ok (.getfield 37, 3) := by decide +kernel
theorem dX8_stepOverNumber_38 : decode cX8_stepOverNumber 38 = .ok (.imul, 1) := by decide +kernel
theorem dX8_stepOverNumber_39 : decode cX8_stepOverNumber 39 = .ok (.aload_n 0, 1) := by decide +kernel
theorem dX8_stepOverNumber_40 : decode cX8_stepOverNumber 40 = .ok (.getfield 11, 3) := by decide +kernel
theorem dX8_stepOverNumber_43 : decode cX8_stepOverNumber 43 = .ok (.aload_n 0, 1) := by decide +kernel
theorem dX8_stepOverNumber_44 : decode cX8_stepOverNumber 44 = .ok (.getfield 34, 3) := by decide +kernel
theorem dX8_stepOverNumber_47 : decode cX8_stepOverNumber 47 = .ok (.iaload, 1) := by decide +kernel
theorem dX8_stepOverNumber_48 : decode cX8_stepOverNumber 48 = .ok (.iadd, 1) := by decide +kernel
theorem dX8_stepOverNumber_49 : decode cX8_stepOverNumber 49 = .ok (.bipush 48, 2) := by decide +kernel
theorem dX8_stepOverNumber_51 : decode cX8_stepOverNumber 51 = .ok (.isub, 1) := by decide +kernel
theorem dX8_stepOverNumber_52 : decode cX8_stepOverNumber 52 = .ok (.putfield 37, 3) := by decide +kernel
theorem dX8_stepOverNumber_55 : decode cX8_stepOverNumber 55 = .ok (.aload_n 0, 1) := by decide +kernel
theorem dX8_stepOverNumber_56 : decode cX8_stepOverNumber 56 = .ok (.dup, 1) := by decide +kernel
theorem dX8_stepOverNumber_57 : decode cX8_stepOverNumber 57 = .ok (.getfield 34, 3) := by decide +kernel
theorem dX8_stepOverNumber_60 : decode cX8_stepOverNumber 60 = .ok (.iconst 1, 1) := by decide +kernel
theorem dX8_stepOverNumber_61 : decode cX8_stepOverNumber 61 = .ok (.iadd, 1) := by decide +kernel
theorem dX8_stepOverNumber_62 : decode cX8_stepOverNumber 62 = .ok (.putfield 34, 3) := by decide +kernel
theorem dX8_stepOverNumber_65 : decode cX8_stepOverNumber 65 = .ok (.goto (-60), 3) := by decide +kernel
theorem dX8_stepOverNumber_68 : decode cX8_stepOverNumber 68 = .ok (.aload_n 0, 1) := by decide +kernel
theorem dX8_stepOverNumber_69 : decode cX8_stepOverNumber 69 = .ok (.aload_n 0, 1) := by decide +kernel
theorem dX8_stepOverNumber_70 : decode cX8_stepOverNumber 70 = .ok (.getfield 34, 3) := by decide +kernel
theorem dX8_stepOverNumber_73 : decode cX8_stepOverNumber 73 = .ok (.aload_n 0, 1) := by decide +kernel
theorem dX8_stepOverNumber_74 : decode cX8_stepOverNumber 74 = .ok (.getfield 31, 3) := by decide +kernel
theorem dX8_stepOverNumber_77 : decode cX8_stepOverNumber 77 = .ok (.isub, 1) := by decide +kernel
theorem dX8_stepOverNumber_78 : decode cX8_stepOverNumber 78 = .ok (.iconst 3, 1) := by decide +kernel
theorem dX8_stepOverNumber_79 : decode cX8_stepOverNumber 79 = .ok (.if_icmp .gt 7, 3) := by decide +kernel
theorem dX8_stepOverNumber_82 : decode cX8_stepOverNumber 82 = .ok (.iconst 2, 1) := by decide +kernel
theorem dX8_stepOverNumber_83 : decode cX8_stepOverNumber 83 = .ok (.goto 4, 3) := by decide +kernel
theorem dX8_stepOverNumber_86 : decode cX8_stepOverNumber 86 = .ok (.iconst 4, 1) := by decide +kernel
theorem dX8_stepOverNumber_87 : decode cX8_stepOverNumber 87 = .ok (.putfield 28, 3) := by decide +kernel
theorem dX8_stepOverNumber_90 : decode cX8_stepOverNumber 90 = .ok (.return_, 1) := by decide +kernel
theorem dX8_isBlank_0 : decode cX8_isBlank 0 = .ok (.iload_n 0, 1) := by decide +kernel
theorem dX8_isBlank_1 : decode cX8_isBlank 1 = .ok (.bipush 32, 2) := by decide +kernel
theorem dX8_isBlank_3 : decode cX8_isBlank 3 = .ok (.if_icmp .eq 9, 3) := by decide +kernel
theorem dX8_isBlank_6 : decode cX8_isBlank 6 = .ok (.iload_n 0, 1) := by decide +kernel
theorem dX8_isBlank_7 : decode cX8_isBlank 7 = .ok (.bipush 10, 2) := by decide +kernel
theorem dX8_isBlank_9 : decode cX8_isBlank 9 = .ok (.if_icmp .ne 7, 3) := by decide +kernel
theorem dX8_isBlank_12 : decode cX8_isBlank 12 = .ok (.iconst 1, 1) := by decide +kernel
theorem dX8_isBlank_13 : decode cX8_isBlank 13 = .ok (.goto 4, 3) := by decide +kernel
theorem dX8_isBlank_16 : decode cX8_isBlank 16 = .ok (.iconst 0, 1) := by decide +kernel
theorem dX8_isBlank_17 : decode cX8_isBlank 17 = .ok (.ireturn, 1) := by decide +kernel
theorem dX8_isLetter_0 : decode cX8_isLetter 0 = .ok (.iload_n 0, 1) := by decide +kernel
theorem dX8_isLetter_1 : decode cX8_isLetter 1 = .ok (.bipush 97, 2) := by decide +kernel
theorem dX8_isLetter_3 : decode cX8_isLetter 3 = .ok (.if_icmp .lt 13, 3) := by decide +kernel
theorem dX8_isLetter_6 : decode cX8_isLetter 6 = .ok (.iload_n 0, 1) := by decide +kernel
theorem dX8_isLetter_7 : decode cX8_isLetter 7 = .ok (.bipush 122, 2) := by decide +kernel
theorem dX8_isLetter_9 : decode cX8_isLetter 9 = .ok (.if_icmp .gt 7, 3) := by decide +kernel
theorem dX8_isLetter_12 : decode cX8_isLetter 12 = .ok (.iconst 1, 1) := by decide +kernel
theorem dX8_isLetter_13 : decode cX8_isLetter 13 = .ok (.goto 4, 3) := by decide +kernel
theorem dX8_isLetter_16 : decode cX8_isLetter 16 = .ok (.iconst 0, 1) := by decide +kernel
theorem dX8_isLetter_17 : decode cX8_isLetter 17 = .ok (.ireturn, 1) := by decide +kernel
theorem dX8_isFigure_0 : decode cX8_isFigure 0 = .ok (.iload_n 0, 1) := by decide +kernel
theorem dX8_isFigure_1 : decode cX8_isFigure 1 = .ok (.bipush 48, 2) := by decide +kernel
theorem dX8_isFigure_3 : decode cX8_isFigure 3 = .ok (.if_icmp .lt 13, 3) := by decide +kernel
theorem dX8_isFigure_6 : decode cX8_isFigure 6 = .ok (.iload_n 0, 1) := by decide +kernel
theorem dX8_isFigure_7 : decode cX8_isFigure 7 = .ok (.bipush 57, 2) := by decide +kernel
theorem dX8_isFigure_9 : decode cX8_isFigure 9 = .ok (.if_icmp .gt 7, 3) := by decide +kernel
theorem dX8_isFigure_12 : decode cX8_isFigure 12 = .ok (.iconst 1, 1) := by decide +kernel
theorem dX8_isFigure_13 : decode cX8_isFigure 13 = .ok (.goto 4, 3) := by decide +kernel
theorem dX8_isFigure_16 : decode cX8_isFigure 16 = .ok (.iconst 0, 1) := by decide +kernel
theorem dX8_isFigure_17 : decode cX8_isFigure 17 = .ok (.ireturn, 1) := by decide +kernel
theorem dX11_init_0 : decode cX11_init 0 = .ok (.aload_n 0, 1) := by decide +kernel
theorem dX11_init_1 : decode cX11_init 1 = .ok (.invokespecial 1, 3) := by decide +kernel
theorem dX11_init_4 : decode cX11_init 4 = .ok (.aload_n 0, 1) := by decide +kernel
theorem dX11_init_5 : decode cX11_init 5 = .ok (.bipush 8, 2) := by decide +kernel
theorem dX11_init_7 : decode cX11_init 7 = .ok (.anewarray 9, 3) := by decide +kernel
theorem dX11_init_10 : decode cX11_init 10 = .ok (.putfield 11, 3) := by decide +kernel
theorem dX11_init_13 : decode cX11_init 13 = .ok (.aload_n 0, 1) := by decide +kernel
theorem dX11_init_14 : decode cX11_init 14 = .ok (.new 15, 3) := by decide +kernel
theorem dX11_init_17 : decode cX11_init 17 = .ok (.dup, 1) := by decide +kernel
theorem dX11_init_18 : decode cX11_init 18 = .ok (.invokespecial 17, 3) := by decide +kernel
theorem dX11_init_21 : decode cX11_init 21 = .ok (.putfield 18, 3) := by decide +kernel
theorem dX11_init_24 : decode cX11_init 24 = .ok (.aload_n 0, 1) := by decide +kernel
theorem dX11_init_25 : decode cX11_init 25 = .ok (.new 22, 3) := by decide +kernel
theorem dX11_init_28 : decode cX11_init 28 = .ok (.dup, 1) := by decide +kernel
theorem dX11_init_29 : decode cX11_init 29 = .ok (.invokespecial 24, 3) := by decide +kernel
theorem dX11_init_32 : decode cX11_init 32 = .ok (.putfield 25, 3) := by decide +kernel
theorem dX11_init_35 : decode cX11_init 35 = .ok (.aload_n 0, 1) := by decide +kernel
theorem dX11_init_36 : decode cX11_init 36 = .ok (.new 29, 3) := by decide +kernel
theorem dX11_init_39 : decode cX11_init 39 = .ok (.dup, 1) := by decide +kernel
theorem dX11_init_40 : decode cX11_init 40 = .ok (.invokespecial 31, 3) := by decide +kernel
theorem dX11_init_43 : decode cX11_init 43 = .ok (.putfield 32, 3) := by decide +kernel
theorem dX11_init_46 : decode cX11_init 46 = .ok (.aload_n 0, 1) := by decide +kernel
theorem dX11_init_47 : decode cX11_init 47 = .ok (.bipush 24, 2) := by decide +kernel
theorem dX11_init_49 : decode cX11_init 49 = .ok (.anewarray 29, 3) := by decide +kernel
theorem dX11_init_52 : decode cX11_init 52 = .ok (.putfield 36, 3) := by decide +kernel
theorem dX11_init_55 : decode cX11_init 55 = .ok (.aload_n 0, 1) := by decide +kernel
theorem dX11_init_56 : decode cX11_init 56 = .ok (.iconst 2, 1) := by decide +kernel
theorem dX11_init_57 : decode cX11_init 57 = .ok (.anewarray 29, 3) := by decide +kernel
theorem dX11_init_60 : decode cX11_init 60 = .ok (.putfield 40, 3) := by decide +kernel
theorem dX11_init_63 : decode cX11_init 63 = .ok (.aload_n 0, 1) := by decide +kernel
theorem dX11_init_64 : decode cX11_init 64 = .ok (.iconst 2, 1) := by decide +kernel
theorem dX11_init_65 : decode cX11_init 65 = .ok (.anewarray 43, 3) := by decide +kernel
theorem dX11_init_68 : decode cX11_init 68 = .ok (.putfield 45, 3) := by decide +kernel
theorem dX11_init_71 : decode cX11_init 71 = .ok (.aload_n 0, 1) := by decide +kernel
theorem dX11_init_72 : decode cX11_init 72 = .ok (.aconst_null, 1) := by decide +kernel
theorem dX11_init_73 : decode cX11_init 73 = .ok (.putfield 49, 3) := by decide +kernel
theorem dX11_init_76 : decode cX11_init 76 = .ok (.aload_n 0, 1) := by decide +kernel
theorem dX11_init_77 : decode cX11_init 77 = .ok (.iconst 0, 1) := by decide +kernel
theorem dX11_init_78 : decode cX11_init 78 = .ok (.putfield 53, 3) := by decide +kernel
theorem dX11_init_81 : decode cX11_init 81 = .ok (.aload_n 0, 1) := by decide +kernel
theorem dX11_init_82 : decode cX11_init 82 = .ok (.iconst 0, 1) := by decide +kernel
theorem dX11_init_83 : decode cX11_init 83 = .ok (.putfield 57, 3) := by decide +kernel
theorem dX11_init_86 : decode cX11_init 86 = .ok (.aload_n 0, 1) := by decide +kernel
theorem dX11_init_87 : decode cX11_init 87 = .ok (.iconst 0, 1) := by decide +kernel
theorem dX11_init_88 : decode cX11_init 88 = .ok (.putfield 60, 3) := by decide +kernel
theorem dX11_init_91 : decode cX11_init 91 = .ok (.aload_n 0, 1) := by decide +kernel
theorem dX11_init_92 : decode cX11_init 92 = .ok (.iconst 0, 1) := by decide +kernel
theorem dX11_init_93 : decode cX11_init 93 = .ok (.putfield 63, 3) := by decide +kernel
theorem dX11_init_96 : decode cX11_init 96 = .ok (.iconst 0, 1) := by decide +kernel
theorem dX11_init_97 : decode cX11_init 97 = .ok (.istore_n 1, 1) := by decide +kernel
theorem dX11_init_98 : decode cX11_init 98 = .ok (.iload_n 1, 1) := by decide +kernel
theorem dX11_init_99 : decode cX11_init 99 = .ok (.bipush 8, 2) := by decide +kernel
theorem dX11_init_101 : decode cX11_init 101 = .ok (.if_icmp .ge 22, 3) := by decide +kernel
theorem dX11_init_104 : decode cX11_init 104 = .ok (.aload_n 0, 1) := by decide +kernel
theorem dX11_init_105 : decode cX11_init 105 = .ok (.getfield 11, 3) := by decide +kernel
theorem dX11_init_108 : decode cX11_init 108 = .ok (.iload_n 1, 1) := by decide +kernel
theorem dX11_init_109 : decode cX11_init 109 = .ok (.new 9, 3) := by decide +kernel
theorem dX11_init_112 : decode cX11_init 112 = .ok (.dup, 1) := by decide +kernel
theorem dX11_init_113 : decode cX11_init 113 = .ok (.invokespecial 66, 3) := by decide +kernel
theorem dX11_init_116 : decode cX11_init 116 = .ok (.aastore, 1) := by decide +kernel
theorem dX11_init_117 : decode cX11_init 117 = .ok (.iinc 1 1, 3) := by decide +kernel
theorem dX11_init_120 : decode cX11_init 120 = .ok (.goto (-22), 3) := by decide +kernel
theorem dX11_init_123 : decode cX11_init 123 = .ok (.iconst 0, 1) := by decide +kernel
theorem dX11_init_124 : decode cX11_init 124 = .ok (.istore_n 1, 1) := by decide +kernel
theorem dX11_init_125 : decode cX11_init 125 = .ok (.iload_n 1, 1) := by decide +kernel
theorem dX11_init_126 : decode cX11_init 126 = .ok (.bipush 24, 2) := by decide +kernel
theorem dX11_init_128 : decode cX11_init 128 = .ok (.if_icmp .ge 22, 3) := by decide +kernel
theorem dX11_init_131 : decode cX11_init 131 = .ok (.aload_n 0, 1) := by decide +kernel
theorem dX11_init_132 : decode cX11_init 132 = .ok (.getfield 36, 3) := by decide +kernel
theorem dX11_init_135 : decode cX11_init 135 = .ok (.iload_n 1, 1) := by decide +kernel
theorem dX11_init_136 : decode cX11_init 136 = .ok (.new 29, 3) := by decide +kernel
theorem dX11_init_139 : decode cX11_init 139 = .ok (.dup, 1) := by decide +kernel
theorem dX11_init_140 : decode cX11_init 140 = .ok (.invokespecial 31, 3) := by decide +kernel
theorem dX11_init_143 : decode cX11_init 143 = .ok (.aastore, 1) := by decide +kernel
theorem dX11_init_144 : decode cX11_init 144 = .ok (.iinc 1 1, 3) := by decide +kernel
theorem dX11_init_147 : decode cX11_init 147 = .ok (.goto (-22), 3) := by decide +kernel
theorem dX11_init_150 : decode cX11_init 150 = .ok (.iconst 0, 1) := by decide +kernel
theorem dX11_init_151 : decode cX11_init 151 = .ok (.istore_n 1, 1) := by decide +kernel
theorem dX11_init_152 : decode cX11_init 152 = .ok (.iload_n 1, 1) := by decide +kernel
theorem dX11_init_153 : decode cX11_init 153 = .ok (.iconst 2, 1) := by decide +kernel
theorem dX11_init_154 : decode cX11_init 154 = .ok (.if_icmp .ge 22, 3) := by decide +kernel
theorem dX11_init_157 : decode cX11_init 157 = .ok (.aload_n 0, 1) := by decide +kernel
theorem dX11_init_158 : decode cX11_init 158 = .ok (.getfield 40, 3) := by decide +kernel
theorem dX11_init_161 : decode cX11_init 161 = .ok (.iload_n 1, 1) := by decide +kernel
theorem dX11_init_162 : decode cX11_init 162 = .ok (.new 29, 3) := by decide +kernel
theorem dX11_init_165 : decode cX11_init 165 = .ok (.dup, 1) := by decide +kernel
theorem dX11_init_166 : decode cX11_init 166 = .ok (.invokespecial 31, 3) := by decide +kernel
theorem dX11_init_169 : decode cX11_init 169 = .ok (.aastore, 1) := by decide +kernel
theorem dX11_init_170 : decode cX11_init 170 = .ok (.iinc 1 1, 3) := by decide +kernel
theorem dX11_init_173 : decode cX11_init 173 = .ok (.goto (-21), 3) := by decide +kernel
theorem dX11_init_176 : decode cX11_init 176 = .ok (.return_, 1) := by decide +kernel
theorem dX11_row_0 : decode cX11_row 0 = .ok (.aload_n 0, 1) := by decide +kernel
theorem dX11_row_1 : decode cX11_row 1 = .ok (.iload_n 1, 1) := by decide +kernel
theorem dX11_row_2 : decode cX11_row 2 = .ok (.invokevirtual 67, 3) := by decide +kernel
theorem dX11_row_5 : decode cX11_row 5 = .ok (.astore 4, 2) := by decide +kernel
theorem dX11_row_7 : decode cX11_row 7 = .ok (.aload 4, 2) := by decide +kernel
theorem dX11_row_9 : decode cX11_row 9 = .ok (.ifnull 18, 3) := by decide +kernel
theorem dX11_row_12 : decode cX11_row 12 = .ok (.iload_n 2, 1) := by decide +kernel
theorem dX11_row_13 : decode cX11_row 13 = .ok (.ifCond .lt 14, 3) := by decide +kernel
theorem dX11_row_16 : decode cX11_row 16 = .ok (.iload_n 2, 1) := by decide +kernel
theorem dX11_row_17 : decode cX11_row 17 = .ok (.iconst 3, 1) := by decide +kernel
theorem dX11_row_18 : decode cX11_row 18 = .ok (.if_icmp .ge 9, 3) := by decide +kernel
theorem dX11_row_21 : decode cX11_row 21 = .ok (.iload_n 3, 1) := by decide +kernel
theorem dX11_row_22 : decode cX11_row 22 = .ok (.bipush 40, 2) := by decide +kernel
theorem dX11_row_24 : decode cX11_row 24 = .ok (.if_icmp .le 6, 3) := by decide +kernel
theorem dX11_row_27 : decode cX11_row 27 = .ok (.ldc 71, 2) := by decide +kernel
theorem dX11_row_29 : decode cX11_row 29 = .ok (.ireturn, 1) := by decide +kernel
theorem dX11_row_30 : decode cX11_row 30 = .ok (.iload_n 3, 1) := by decide +kernel
theorem dX11_row_31 : decode cX11_row 31 = .ok (.ifCond .ge 9, 3) := by decide +kernel
theorem dX11_row_34 : decode cX11_row 34 = .ok (.aload_n 0, 1) := by decide +kernel
theorem dX11_row_35 : decode cX11_row 35 = .ok (.iconst 4, 1) := by decide +kernel
theorem dX11_row_36 : decode cX11_row 36 = .ok (.invokevirtual 72, 3) := by decide +kernel
theorem dX11_row_39 : decode cX11_row 39 = .ok (.ireturn, 1) := by decide +kernel
theorem dX11_row_40 : decode cX11_row 40 = .ok (.aload 4, 2) := by decide +kernel
theorem dX11_row_42 : decode cX11_row 42 = .ok (.iload_n 2, 1) := by decide +kernel
theorem dX11_row_43 : decode cX11_row 43 = .ok (.iload_n 3, 1) := by decide +kernel
theorem dX11_row_44 : decode cX11_row 44 = .ok (.invokevirtual 76, 3) := by decide +kernel
theorem dX11_row_47 : decode cX11_row 47 = .ok (.aload_n 0, 1) := by decide +kernel
theorem dX11_row_48 : decode cX11_row 48 = .ok (.iload_n 3, 1) := by decide +kernel
theorem dX11_row_49 : decode cX11_row 49 = .ok (.invokevirtual 80, 3) := by decide +kernel
theorem dX11_row_52 : decode cX11_row 52 = .ok (.ireturn, 1) := by decide +kernel
theorem dX11_set_0 : decode cX11_set 0 = .ok (.aload_n 0, 1) := by decide +kernel
theorem dX11_set_1 : decode cX11_set 1 = .ok (.iload_n 1, 1) := by decide +kernel
theorem dX11_set_2 : decode cX11_set 2 = .ok (.invokevirtual 67, 3) := by decide +kernel
theorem dX11_set_5 : decode cX11_set 5 = .ok (.astore 4, 2) := by decide +kernel
theorem dX11_set_7 : decode cX11_set 7 = .ok (.aload 4, 2) := by decide +kernel
theorem dX11_set_9 : decode cX11_set 9 = .ok (.ifnonnull 6, 3) := by decide +kernel
theorem dX11_set_12 : decode cX11_set 12 = .ok (.ldc 71, 2) := by decide +kernel
theorem dX11_set_14 : decode cX11_set 14 = .ok (.ireturn, 1) := by decide +kernel
theorem dX11_set_15 : decode cX11_set 15 = .ok (.aload 4, 2) := by decide +kernel
theorem dX11_set_17 : decode cX11_set 17 = .ok (.invokevirtual 83, 3) := by decide +kernel
theorem dX11_set_20 : decode cX11_set 20 = .ok (.ifCond .eq 9, 3) := by decide +kernel
theorem dX11_set_23 : decode cX11_set 23 = .ok (.aload_n 0, 1) := by decide +kernel
theorem dX11_set_24 : decode cX11_set 24 = .ok (.iconst 1, 1) := by decide +kernel
theorem dX11_set_25 : decode cX11_set 25 = .ok (.invokevirtual 72, 3) := by decide +kernel
theorem dX11_set_28 : decode cX11_set 28 = .ok (.ireturn, 1) := by decide +kernel
theorem dX11_set_29 : decode cX11_set 29 = .ok (.aload 4, 2) := by decide +kernel
theorem dX11_set_31 : decode cX11_set 31 = .ok (.iload_n 2, 1) := by decide +kernel
theorem dX11_set_32 : decode cX11_set 32 = .ok (.iconst 1, 1) := by decide +kernel
theorem dX11_set_33 : decode cX11_set 33 = .ok (.invokevirtual 87, 3) := by decide +kernel
theorem dX11_set_36 : decode cX11_set 36 = .ok (.ifCond .ne 9, 3) := by decide +kernel
theorem dX11_set_39 : decode cX11_set 39 = .ok (.aload_n 0, 1) := by decide +kernel
theorem dX11_set_40 : decode cX11_set 40 = .ok (.iconst 2, 1) := by decide +kernel
theorem dX11_set_41 : decode cX11_set 41 = .ok (.invokevirtual 72, 3) := by decide +kernel
theorem dX11_set_44 : decode cX11_set 44 = .ok (.ireturn, 1) := by decide +kernel
theorem dX11_set_45 : decode cX11_set 45 = .ok (.aload_n 0, 1) := by decide +kernel
theorem dX11_set_46 : decode cX11_set 46 = .ok (.aload 4, 2) := by decide +kernel
theorem dX11_set_48 : decode cX11_set 48 = .ok (.iload_n 2, 1) := by decide +kernel
theorem dX11_set_49 : decode cX11_set 49 = .ok (.iload_n 3, 1) := by decide +kernel
theorem dX11_set_50 : decode cX11_set 50 = .ok (.invokevirtual 91, 3) := by decide +kernel
theorem dX11_set_53 : decode cX11_set 53 = .ok (.invokevirtual 80, 3) := by decide +kernel
theorem dX11_set_56 : decode cX11_set 56 = .ok (.ireturn, 1) := by decide +kernel
theorem dX11_copy_0 : decode cX11_copy 0 = .ok (.aload_n 0, 1) := by decide +kernel
theorem dX11_copy_1 : decode cX11_copy 1 = .ok (.iload_n 1, 1) := by decide +kernel
theorem dX11_copy_2 : decode cX11_copy 2 = .ok (.invokevirtual 67, 3) := by decide +kernel
theorem dX11_copy_5 : decode cX11_copy 5 = .ok (.astore 6, 2) := by decide +kernel
theorem dX11_copy_7 : decode cX11_copy 7 = .ok (.aload_n 0, 1) := by decide +kernel
theorem dX11_copy_8 : decode cX11_copy 8 = .ok (.iload_n 3, 1) := by decide +kernel
theorem dX11_copy_9 : decode cX11_copy 9 = .ok (.invokevirtual 67, 3) := by decide +kernel
theorem dX11_copy_12 : decode cX11_copy 12 = .ok (.astore 7, 2) := by decide +kernel
theorem dX11_copy_14 : decode cX11_copy 14 = .ok (.aload 6, 2) := by decide +kernel
theorem dX11_copy_16 : decode cX11_copy 16 = .ok (.ifnull 8, 3) := by decide +kernel
theorem dX11_copy_19 : decode cX11_copy 19 = .ok (.aload 7, 2) := by decide +kernel
theorem dX11_copy_21 : decode cX11_copy 21 = .ok (.ifnonnull 6, 3) := by decide +kernel
theorem dX11_copy_24 : decode cX11_copy 24 = .ok (.ldc 71, 2) := by decide +kernel
theorem dX11_copy_26 : decode cX11_copy 26 = .ok (.ireturn, 1) := by decide +kernel
theorem dX11_copy_27 : decode cX11_copy 27 = .ok (.aload 6, 2) := by decide +kernel
theorem dX11_copy_29 : decode cX11_copy 29 = .ok (.invokevirtual 83, 3) := by decide +kernel
theorem dX11_copy_32 : decode cX11_copy 32 = .ok (.ifCond .ne 11, 3) := by decide +kernel
theorem dX11_copy_35 : decode cX11_copy 35 = .ok (.aload 7, 2) := by decide +kernel
theorem dX11_copy_37 : decode cX11_copy 37 = .ok (.invokevirtual 83, 3) := by decide +kernel
theorem dX11_copy_40 : decode cX11_copy 40 = .ok (.ifCond .eq 9, 3) := by decide +kernel
theorem dX11_copy_43 : decode cX11_copy 43 = .ok (.aload_n 0, 1) := by decide +kernel
theorem dX11_copy_44 : decode cX11_copy 44 = .ok (.iconst 1, 1) := by decide +kernel
theorem dX11_copy_45 : decode cX11_copy 45 = .ok (.invokevirtual 72, 3) := by decide +kernel
theorem dX11_copy_48 : decode cX11_copy 48 = .ok (.ireturn, 1) := by decide +kernel
theorem dX11_copy_49 : decode cX11_copy 49 = .ok (.aload 6, 2) := by decide +kernel
theorem dX11_copy_51 : decode cX11_copy 51 = .ok (.getfield 95, 3) := by decide +kernel
theorem dX11_copy_54 : decode cX11_copy 54 = .ok (.aload 7, 2) := by decide +kernel
theorem dX11_copy_56 : decode cX11_copy 56 = .ok (.getfield 95, 3) := by decide +kernel
theorem dX11_copy_59 : decode cX11_copy 59 = .ok (.if_icmp .eq 9, 3) := by decide +kernel
theorem dX11_copy_62 : decode cX11_copy 62 = .ok (.aload_n 0, 1) := by decide +kernel
theorem dX11_copy_63 : decode cX11_copy 63 = .ok (.iconst 5, 1) := by decide +kernel
theorem dX11_copy_64 : decode cX11_copy 64 = .ok (.invokevirtual 72, 3) := by decide +kernel
theorem dX11_copy_67 : decode cX11_copy 67 = .ok (.ireturn, 1) := by decide +kernel
theorem dX11_copy_68 : decode cX11_copy 68 = .ok (.aload 6, 2) := by decide +kernel
theorem dX11_copy_70 : decode cX11_copy 70 = .ok (.iload_n 2, 1) := by decide +kernel
theorem dX11_copy_71 : decode cX11_copy 71 = .ok (.iload 5, 2) := by decide +kernel
theorem dX11_copy_73 : decode cX11_copy 73 = .ok (.invokevirtual 87, 3) := by decide +kernel
theorem dX11_copy_76 : decode cX11_copy 76 = .ok (.ifCond .eq 15, 3) := by decide +kernel
theorem dX11_copy_79 : decode cX11_copy 79 = .ok (.aload 7, 2) := by decide +kernel
theorem dX11_copy_81 : decode cX11_copy 81 = .ok (.iload 4, 2) := by decide +kernel
theorem dX11_copy_83 : decode cX11_copy 83 = .ok (.iload 5, 2) := by decide +kernel
theorem dX11_copy_85 : decode cX11_copy 85 = .ok (.invokevirtual 87, 3) := by decide +kernel
theorem dX11_copy_88 : decode cX11_copy 88 = .ok (.ifCond .ne 9, 3) := by decide +kernel
theorem dX11_copy_91 : decode cX11_copy 91 = .ok (.aload_n 0, 1) := by decide +kernel
theorem dX11_copy_92 : decode cX11_copy 92 = .ok (.iconst 2, 1) := by decide +kernel
theorem dX11_copy_93 : decode cX11_copy 93 = .ok (.invokevirtual 72, 3) := by decide +kernel
theorem dX11_copy_96 : decode cX11_copy 96 = .ok (.ireturn, 1) := by decide +kernel
theorem dX11_copy_97 : decode cX11_copy 97 = .ok (.aload 6, 2) := by decide +kernel
theorem dX11_copy_99 : decode cX11_copy 99 = .ok (.getfield 98, 3) := by decide +kernel
theorem dX11_copy_102 : decode cX11_copy 102 = .ok (.iload_n 2, 1) := by decide +kernel
theorem dX11_copy_103 : decode cX11_copy 103 = .ok (.aload 7, 2) := by decide +kernel
theorem dX11_copy_105 : decode cX11_copy 105 = .ok (.getfield 98, 3) := by decide +kernel
theorem dX11_copy_108 : decode cX11_copy 108 = .ok (.iload 4, 2) := by decide +kernel
theorem dX11_copy_110 : decode cX11_copy 110 = .ok (.iload 5, 2) := by decide +kernel
theorem dX11_copy_112 : decode cX11_copy 112 = .ok (.invokestatic 102, 3) := by decide +kernel
theorem dX11_copy_115 : decode cX11_copy 115 = .ok (.aload_n 0, 1) := by decide +kernel
theorem dX11_copy_116 : decode cX11_copy 116 = .ok (.iload 5, 2) := by decide +kernel
theorem dX11_copy_118 : decode cX11_copy 118 = .ok (.invokevirtual 80, 3) := by decide +kernel
theorem dX11_copy_121 : decode cX11_copy 121 = .ok (.ireturn, 1) := by decide +kernel
theorem dX11_drop_0 : decode cX11_drop 0 = .ok (.aload_n 0, 1) := by decide +kernel
theorem dX11_drop_1 : decode cX11_drop 1 = .ok (.iload_n 1, 1) := by decide +kernel
theorem dX11_drop_2 : decode cX11_drop 2 = .ok (.invokevirtual 67, 3) := by decide +kernel
theorem dX11_drop_5 : decode cX11_drop 5 = .ok (.astore_n 2, 1) := by decide +kernel
theorem dX11_drop_6 : decode cX11_drop 6 = .ok (.aload_n 2, 1) := by decide +kernel
theorem dX11_drop_7 : decode cX11_drop 7 = .ok (.ifnonnull 6, 3) := by decide +kernel
theorem dX11_drop_10 : decode cX11_drop 10 = .ok (.ldc 71, 2) := by decide +kernel
theorem dX11_drop_12 : decode cX11_drop 12 = .ok (.ireturn, 1) := by decide +kernel
theorem dX11_drop_13 : decode cX11_drop 13 = .ok (.aload_n 2, 1) := by decide +kernel
theorem dX11_drop_14 : decode cX11_drop 14 = .ok (.invokevirtual 83, 3) := by decide +kernel
theorem dX11_drop_17 : decode cX11_drop 17 = .ok (.ifCond .eq 9, 3) := by decide +kernel
theorem dX11_drop_20 : decode cX11_drop 20 = .ok (.aload_n 0, 1) := by decide +kernel
theorem dX11_drop_21 : decode cX11_drop 21 = .ok (.iconst 1, 1) := by decide +kernel
theorem dX11_drop_22 : decode cX11_drop 22 = .ok (.invokevirtual 72, 3) := by decide +kernel
theorem dX11_drop_25 : decode cX11_drop 25 = .ok (.ireturn, 1) := by decide +kernel
theorem dX11_drop_26 : decode cX11_drop 26 = .ok (.aload_n 2, 1) := by decide +kernel
