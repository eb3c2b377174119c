theorem dJ0_coder_7d493_0 : decode cJ0_coder_7d493 0 = .ok (.getstatic 38, 3) := by decide +kernel
theorem dJ0_coder_7d493_3 : decode cJ0_coder_7d493 3 = .ok (.ifCond .eq 10, 3) := by decide +kernel
theorem dJ0_coder_7d493_6 : decode cJ0_coder_7d493 6 = .ok (.aload_n 0, 1) := by decide +kernel
theorem dJ0_coder_7d493_7 : decode cJ0_coder_7d493 7 = .ok (.getfield 15, 3) := by decide +kernel
theorem dJ0_coder_7d493_10 : decode cJ0_coder_7d493 10 = .ok (.goto 4, 3) := by decide +kernel
theorem dJ0_coder_7d493_14 : decode cJ0_coder_7d493 14 = .ok (.ireturn, 1) := by decide +kernel
theorem dJ0_length_8abf5_0 : decode cJ0_length_8abf5 0 = .ok (.aload_n 0, 1) := by decide +kernel
theorem dJ0_length_8abf5_1 : decode cJ0_length_8abf5 1 = .ok (.getfield 9, 3) := by decide +kernel
theorem dJ0_length_8abf5_4 : decode cJ0_length_8abf5 4 = .ok (.arraylength, 1) := by decide +kernel
theorem dJ0_length_8abf5_5 : decode cJ0_length_8abf5 5 = .ok (.aload_n 0, 1) := by decide +kernel
theorem dJ0_length_8abf5_6 : decode cJ0_length_8abf5 6 = .ok (.invokevirtual 335, 3) := by decide +kernel
theorem dJ0_length_8abf5_9 : decode cJ0_length_8abf5 9 = .ok (.ishr, 1) := by decide +kernel
theorem dJ0_length_8abf5_10 : decode cJ0_length_8abf5 10 = .ok (.ireturn, 1) := by decide +kernel
theorem dJ0_isLatin1_aae02_0 : decode cJ0_isLatin1_aae02 0 = .ok (.getstatic 38, 3) := by decide +kernel
theorem dJ0_isLatin1_aae02_3 : decode cJ0_isLatin1_aae02 3 = .ok (.ifCond .eq 14, 3) := by decide +kernel
theorem dJ0_isLatin1_aae02_6 : decode cJ0_isLatin1_aae02 6 = .ok (.aload_n 0, 1) := by decide +kernel
theorem dJ0_isLatin1_aae02_7 : decode cJ0_isLatin1_aae02 7 = .ok (.getfield 15, 3) := by decide +kernel
theorem dJ0_isLatin1_aae02_10 : decode cJ0_isLatin1_aae02 10 = .ok (.ifCond .ne 7, 3) := by decide +kernel
theorem dJ0_isLatin1_aae02_13 : decode cJ0_isLatin1_aae02 13 = .ok (.iconst 1, 1) := by decide +kernel
theorem dJ0_isLatin1_aae02_14 : decode cJ0_isLatin1_aae02 14 = .ok (.goto 4, 3) := by decide +kernel
theorem dJ0_isLatin1_aae02_18 : decode cJ0_isLatin1_aae02 18 = .ok (.ireturn, 1) := by decide +kernel
theorem dJ3_checkIndex_8e157_0 : decode cJ3_checkIndex_8e157 0 = .ok (.iload_n 0, 1) := by decide +kernel
theorem dJ3_checkIndex_8e157_1 : decode cJ3_checkIndex_8e157 1 = .ok (.ifCond .lt 8, 3) := by decide +kernel
theorem dJ3_checkIndex_8e157_4 : decode cJ3_checkIndex_8e157 4 = .ok (.iload_n 0, 1) := by decide +kernel
theorem dJ3_checkIndex_8e157_5 : decode cJ3_checkIndex_8e157 5 = .ok (.iload_n 1, 1) := by decide +kernel
theorem dJ3_checkIndex_8e157_6 : decode cJ3_checkIndex_8e157 6 = .ok (.if_icmp .lt 10, 3) := by decide +kernel
theorem dJ3_checkIndex_8e157_16 : decode cJ3_checkIndex_8e157 16 = .ok (.iload_n 0, 1) := by decide +kernel
theorem dJ3_checkIndex_8e157_17 : decode cJ3_checkIndex_8e157 17 = .ok (.ireturn, 1) := by decide +kernel
theorem dJ0_checkIndex_df160_0 : decode cJ0_checkIndex_df160 0 = .ok (.iload_n 0, 1) := by decide +kernel
theorem dJ0_checkIndex_df160_1 : decode cJ0_checkIndex_df160 1 = .ok (.iload_n 1, 1) := by decide +kernel
theorem dJ0_checkIndex_df160_2 : decode cJ0_checkIndex_df160 2 = .ok (.getstatic 1053, 3) := by decide +kernel
theorem dJ0_checkIndex_df160_5 : decode cJ0_checkIndex_df160 5 = .ok (.invokestatic 1059, 3) := by decide +kernel
theorem dJ0_checkIndex_df160_8 : decode cJ0_checkIndex_df160 8 = .ok (.pop, 1) := by decide +kernel
theorem dJ0_checkIndex_df160_9 : decode cJ0_checkIndex_df160 9 = .ok (.return_, 1) := by decide +kernel
theorem dJ1_charAt_3b067_0 : decode cJ1_charAt_3b067 0 = .ok (.iload_n 1, 1) := by decide +kernel
theorem dJ1_charAt_3b067_1 : decode cJ1_charAt_3b067 1 = .ok (.aload_n 0, 1) := by decide +kernel
theorem dJ1_charAt_3b067_2 : decode cJ1_charAt_3b067 2 = .ok (.arraylength, 1) := by decide +kernel
theorem dJ1_charAt_3b067_3 : decode cJ1_charAt_3b067 3 = .ok (.invokestatic 9, 3) := by decide +kernel
theorem dJ1_charAt_3b067_6 : decode cJ1_charAt_3b067 6 = .ok (.aload_n 0, 1) := by decide +kernel
theorem dJ1_charAt_3b067_7 : decode cJ1_charAt_3b067 7 = .ok (.iload_n 1, 1) := by decide +kernel
theorem dJ1_charAt_3b067_8 : decode cJ1_charAt_3b067 8 = .ok (.baload, 1) := by decide +kernel
theorem dJ1_charAt_3b067_9 : decode cJ1_charAt_3b067 9 = .ok (.sipush 255, 3) := by decide +kernel
theorem dJ1_charAt_3b067_12 : decode cJ1_charAt_3b067 12 = .ok (.iand, 1) := by decide +kernel
theorem dJ1_charAt_3b067_13 : decode cJ1_charAt_3b067 13 = .ok (.i2c, 1) := by decide +kernel
theorem dJ1_charAt_3b067_14 : decode cJ1_charAt_3b067 14 = .ok (.ireturn, 1) := by decide +kernel
theorem dJ0_charAt_5068e_0 : decode cJ0_charAt_5068e 0 = .ok (.aload_n 0, 1) := by decide +kernel
theorem dJ0_charAt_5068e_1 : decode cJ0_charAt_5068e 1 = .ok (.invokevirtual 492, 3) := by decide +kernel
theorem dJ0_charAt_5068e_4 : decode cJ0_charAt_5068e 4 = .ok (.ifCond .eq 12, 3) := by decide +kernel
theorem dJ0_charAt_5068e_7 : decode cJ0_charAt_5068e 7 = .ok (.aload_n 0, 1) := by decide +kernel
theorem dJ0_charAt_5068e_8 : decode cJ0_charAt_5068e 8 = .ok (.getfield 9, 3) := by decide +kernel
theorem dJ0_charAt_5068e_11 : decode cJ0_charAt_5068e 11 = .ok (.iload_n 1, 1) := by decide +kernel
theorem dJ0_charAt_5068e_12 : decode cJ0_charAt_5068e 12 = .ok (.invokestatic 495, 3) := by decide +kernel
theorem dJ0_charAt_5068e_15 : decode cJ0_charAt_5068e 15 = .ok (.ireturn, 1) := by decide +kernel
theorem dX4_isSign_0 : decode cX4_isSign 0 = .ok (.iconst 0, 1) := by decide +kernel
theorem dX4_isSign_1 : decode cX4_isSign 1 = .ok (.istore_n 1, 1) := by decide +kernel
theorem dX4_isSign_2 : decode cX4_isSign 2 = .ok (.iload_n 1, 1) := by decide +kernel
theorem dX4_isSign_3 : decode cX4_isSign 3 = .ok (.ldc 122, 2) := by decide +kernel
theorem dX4_isSign_5 : decode cX4_isSign 5 = .ok (.invokevirtual 56, 3) := by decide +kernel
theorem dX4_isSign_8 : decode cX4_isSign 8 = .ok (.if_icmp .ge 21, 3) := by decide +kernel
theorem dX4_isSign_29 : decode cX4_isSign 29 = .ok (.iconst 0, 1) := by decide +kernel
theorem dX4_isSign_30 : decode cX4_isSign 30 = .ok (.ireturn, 1) := by decide +kernel
theorem dX4_isSign_11 : decode cX4_isSign 11 = .ok (.ldc 122, 2) := by decide +kernel
theorem dX4_isSign_13 : decode cX4_isSign 13 = .ok (.iload_n 1, 1) := by decide +kernel
theorem dX4_isSign_14 : decode cX4_isSign 14 = .ok (.invokevirtual 61, 3) := by decide +kernel
theorem dX4_isSign_17 : decode cX4_isSign 17 = .ok (.iload_n 0, 1) := by decide +kernel
theorem dX4_isSign_18 : decode cX4_isSign 18 = .ok (.if_icmp .ne 5, 3) := by decide +kernel
theorem dX4_isSign_23 : decode cX4_isSign 23 = .ok (.iinc 1 1, 3) := by decide +kernel
theorem dX4_isSign_26 : decode cX4_isSign 26 = .ok (.goto (-24), 3) := by decide +kernel
theorem dX4_isSign_21 : decode cX4_isSign 21 = .ok (.iconst 1, 1) := by decide +kernel
theorem dX4_isSign_22 : decode cX4_isSign 22 = .ok (.ireturn, 1) := by decide +kernel
theorem dX3_putUntold_0 : decode cX3_putUntold 0 = .ok (.iconst 0, 1) := by decide +kernel
theorem dX3_putUntold_1 : decode cX3_putUntold 1 = .ok (.istore_n 1, 1) := by decide +kernel
theorem dX3_putUntold_2 : decode cX3_putUntold 2 = .ok (.iload_n 1, 1) := by decide +kernel
theorem dX3_putUntold_3 : decode cX3_putUntold 3 = .ok (.getstatic 31, 3) := by decide +kernel
theorem dX3_putUntold_6 : decode cX3_putUntold 6 = .ok (.arraylength, 1) := by decide +kernel
theorem dX3_putUntold_7 : decode cX3_putUntold 7 = .ok (.if_icmp .ge 19, 3) := by decide +kernel
theorem dX3_putUntold_26 : decode cX3_putUntold 26 = .ok (.aload_n 0, 1) := by decide +kernel
theorem dX3_putUntold_27 : decode cX3_putUntold 27 = .ok (.invokevirtual 38, 3) := by decide +kernel
theorem dX3_putUntold_30 : decode cX3_putUntold 30 = .ok (.pop, 1) := by decide +kernel
theorem dX3_putUntold_31 : decode cX3_putUntold 31 = .ok (.iconst 0, 1) := by decide +kernel
theorem dX3_putUntold_32 : decode cX3_putUntold 32 = .ok (.istore_n 1, 1) := by decide +kernel
theorem dX3_putUntold_33 : decode cX3_putUntold 33 = .ok (.iload_n 1, 1) := by decide +kernel
theorem dX3_putUntold_34 : decode cX3_putUntold 34 = .ok (.getstatic 42, 3) := by decide +kernel
theorem dX3_putUntold_37 : decode cX3_putUntold 37 = .ok (.arraylength, 1) := by decide +kernel
theorem dX3_putUntold_38 : decode cX3_putUntold 38 = .ok (.if_icmp .ge 19, 3) := by decide +kernel
theorem dX3_putUntold_57 : decode cX3_putUntold 57 = .ok (.aload_n 0, 1) := by decide +kernel
theorem dX3_putUntold_58 : decode cX3_putUntold 58 = .ok (.invokevirtual 38, 3) := by decide +kernel
theorem dX3_putUntold_61 : decode cX3_putUntold 61 = .ok (.pop, 1) := by decide +kernel
theorem dX3_putUntold_62 : decode cX3_putUntold 62 = .ok (.return_, 1) := by decide +kernel
theorem dX3_putUntold_41 : decode cX3_putUntold 41 = .ok (.aload_n 0, 1) := by decide +kernel
theorem dX3_putUntold_42 : decode cX3_putUntold 42 = .ok (.getstatic 42, 3) := by decide +kernel
theorem dX3_putUntold_45 : decode cX3_putUntold 45 = .ok (.iload_n 1, 1) := by decide +kernel
theorem dX3_putUntold_46 : decode cX3_putUntold 46 = .ok (.iaload, 1) := by decide +kernel
theorem dX3_putUntold_47 : decode cX3_putUntold 47 = .ok (.invokevirtual 34, 3) := by decide +kernel
theorem dX3_putUntold_50 : decode cX3_putUntold 50 = .ok (.pop, 1) := by decide +kernel
theorem dX3_putUntold_51 : decode cX3_putUntold 51 = .ok (.iinc 1 1, 3) := by decide +kernel
theorem dX3_putUntold_54 : decode cX3_putUntold 54 = .ok (.goto (-21), 3) := by decide +kernel
theorem dX3_putUntold_10 : decode cX3_putUntold 10 = .ok (.aload_n 0, 1) := by decide +kernel
theorem dX3_putUntold_11 : decode cX3_putUntold 11 = .ok (.getstatic 31, 3) := by decide +kernel
theorem dX3_putUntold_14 : decode cX3_putUntold 14 = .ok (.iload_n 1, 1) := by decide +kernel
theorem dX3_putUntold_15 : decode cX3_putUntold 15 = .ok (.iaload, 1) := by decide +kernel
theorem dX3_putUntold_16 : decode cX3_putUntold 16 = .ok (.invokevirtual 34, 3) := by decide +kernel
theorem dX3_putUntold_19 : decode cX3_putUntold 19 = .ok (.pop, 1) := by decide +kernel
theorem dX3_putUntold_20 : decode cX3_putUntold 20 = .ok (.iinc 1 1, 3) := by decide +kernel
theorem dX3_putUntold_23 : decode cX3_putUntold 23 = .ok (.goto (-21), 3) := by decide +kernel
theorem dX4_isBlank_0 : decode cX4_isBlank 0 = .ok (.iload_n 0, 1) := by decide +kernel
theorem dX4_isBlank_1 : decode cX4_isBlank 1 = .ok (.bipush 32, 2) := by decide +kernel
theorem dX4_isBlank_3 : decode cX4_isBlank 3 = .ok (.if_icmp .eq 9, 3) := by decide +kernel
theorem dX4_isBlank_12 : decode cX4_isBlank 12 = .ok (.iconst 1, 1) := by decide +kernel
theorem dX4_isBlank_13 : decode cX4_isBlank 13 = .ok (.goto 4, 3) := by decide +kernel
theorem dX4_isBlank_17 : decode cX4_isBlank 17 = .ok (.ireturn, 1) := by decide +kernel
theorem dX4_isBlank_6 : decode cX4_isBlank 6 = .ok (.iload_n 0, 1) := by decide +kernel
theorem dX4_isBlank_7 : decode cX4_isBlank 7 = .ok (.bipush 10, 2) := by decide +kernel
theorem dX4_isBlank_9 : decode cX4_isBlank 9 = .ok (.if_icmp .ne 7, 3) := by decide +kernel
theorem dX4_isBlank_16 : decode cX4_isBlank 16 = .ok (.iconst 0, 1) := by decide +kernel
theorem dX4_isLetter_0 : decode cX4_isLetter 0 = .ok (.iload_n 0, 1) := by decide +kernel
theorem dX4_isLetter_1 : decode cX4_isLetter 1 = .ok (.bipush 97, 2) := by decide +kernel
theorem dX4_isLetter_3 : decode cX4_isLetter 3 = .ok (.if_icmp .lt 13, 3) := by decide +kernel
theorem dX4_isLetter_16 : decode cX4_isLetter 16 = .ok (.iconst 0, 1) := by decide +kernel
theorem dX4_isLetter_17 : decode cX4_isLetter 17 = .ok (.ireturn, 1) := by decide +kernel
theorem dX4_isLetter_6 : decode cX4_isLetter 6 = .ok (.iload_n 0, 1) := by decide +kernel
theorem dX4_isLetter_7 : decode cX4_isLetter 7 = .ok (.bipush 122, 2) := by decide +kernel
theorem dX4_isLetter_9 : decode cX4_isLetter 9 = .ok (.if_icmp .gt 7, 3) := by decide +kernel
theorem dX4_isLetter_12 : decode cX4_isLetter 12 = .ok (.iconst 1, 1) := by decide +kernel
theorem dX4_isLetter_13 : decode cX4_isLetter 13 = .ok (.goto 4, 3) := by decide +kernel
theorem dX4_isDigit_0 : decode cX4_isDigit 0 = .ok (.iload_n 0, 1) := by decide +kernel
theorem dX4_isDigit_1 : decode cX4_isDigit 1 = .ok (.bipush 48, 2) := by decide +kernel
theorem dX4_isDigit_3 : decode cX4_isDigit 3 = .ok (.if_icmp .lt 13, 3) := by decide +kernel
theorem dX4_isDigit_16 : decode cX4_isDigit 16 = .ok (.iconst 0, 1) := by decide +kernel
theorem dX4_isDigit_17 : decode cX4_isDigit 17 = .ok (.ireturn, 1) := by decide +kernel
theorem dX4_isDigit_6 : decode cX4_isDigit 6 = .ok (.iload_n 0, 1) := by decide +kernel
theorem dX4_isDigit_7 : decode cX4_isDigit 7 = .ok (.bipush 57, 2) := by decide +kernel
theorem dX4_isDigit_9 : decode cX4_isDigit 9 = .ok (.if_icmp .gt 7, 3) := by decide +kernel
theorem dX4_isDigit_12 : decode cX4_isDigit 12 = .ok (.iconst 1, 1) := by decide +kernel
theorem dX4_isDigit_13 : decode cX4_isDigit 13 = .ok (.goto 4, 3) := by decide +kernel
theorem dX4_withLetter_0 : decode cX4_withLetter 0 = .ok (.ldc2_w 120, 3) := by decide +kernel
theorem dX4_withLetter_3 : decode cX4_withLetter 3 = .ok (.lload_n 0, 1) := by decide +kernel
theorem dX4_withLetter_4 : decode cX4_withLetter 4 = .ok (.lmul, 1) := by decide +kernel
theorem dX4_withLetter_5 : decode cX4_withLetter 5 = .ok (.iload_n 2, 1) := by decide +kernel
theorem dX4_withLetter_6 : decode cX4_withLetter 6 = .ok (.bipush 97, 2) := by decide +kernel
theorem dX4_withLetter_8 : decode cX4_withLetter 8 = .ok (.isub, 1) := by decide +kernel
theorem dX4_withLetter_9 : decode cX4_withLetter 9 = .ok (.iconst 1, 1) := by decide +kernel
theorem dX4_withLetter_10 : decode cX4_withLetter 10 = .ok (.iadd, 1) := by decide +kernel
theorem dX4_withLetter_11 : decode cX4_withLetter 11 = .ok (.i2l, 1) := by decide +kernel
theorem dX4_withLetter_12 : decode cX4_withLetter 12 = .ok (.ladd, 1) := by decide +kernel
theorem dX4_withLetter_13 : decode cX4_withLetter 13 = .ok (.lreturn, 1) := by decide +kernel
theorem dX4_refuse_0 : decode cX4_refuse 0 = .ok (.aload_n 0, 1) := by decide +kernel
theorem dX4_refuse_1 : decode cX4_refuse 1 = .ok (.aload_n 0, 1) := by decide +kernel
theorem dX4_refuse_2 : decode cX4_refuse 2 = .ok (.getfield 28, 3) := by decide +kernel
theorem dX4_refuse_5 : decode cX4_refuse 5 = .ok (.iconst 1, 1) := by decide +kernel
theorem dX4_refuse_6 : decode cX4_refuse 6 = .ok (.if_icmp .ne 7, 3) := by decide +kernel
theorem dX4_refuse_13 : decode cX4_refuse 13 = .ok (.iload_n 1, 1) := by decide +kernel
theorem dX4_refuse_14 : decode cX4_refuse 14 = .ok (.putfield 48, 3) := by decide +kernel
theorem dX4_refuse_17 : decode cX4_refuse 17 = .ok (.aload_n 0, 1) := by decide +kernel
theorem dX4_refuse_18 : decode cX4_refuse 18 = .ok (.aload_n 0, 1) := by decide +kernel
theorem dX4_refuse_19 : decode cX4_refuse 19 = .ok (.getfield 31, 3) := by decide +kernel
theorem dX4_refuse_22 : decode cX4_refuse 22 = .ok (.putfield 51, 3) := by decide +kernel
theorem dX4_refuse_25 : decode cX4_refuse 25 = .ok (.iconst 0, 1) := by decide +kernel
theorem dX4_refuse_26 : decode cX4_refuse 26 = .ok (.ireturn, 1) := by decide +kernel
theorem dX4_refuse_9 : decode cX4_refuse 9 = .ok (.iconst 1, 1) := by decide +kernel
theorem dX4_refuse_10 : decode cX4_refuse 10 = .ok (.goto 4, 3) := by decide +kernel
theorem dX4_wordToken_0 : decode cX4_wordToken 0 = .ok (.iconst 0, 1) := by decide +kernel
theorem dX4_wordToken_1 : decode cX4_wordToken 1 = .ok (.istore_n 1, 1) := by decide +kernel
theorem dX4_wordToken_2 : decode cX4_wordToken 2 = .ok (.iload_n 1, 1) := by decide +kernel
theorem dX4_wordToken_3 : decode cX4_wordToken 3 = .ok (.bipush 22, 2) := by decide +kernel
theorem dX4_wordToken_5 : decode cX4_wordToken 5 = .ok (.if_icmp .ge 29, 3) := by decide +kernel
theorem dX4_wordToken_34 : decode cX4_wordToken 34 = .ok (.iconst 2, 1) := by decide +kernel
theorem dX4_wordToken_35 : decode cX4_wordToken 35 = .ok (.ireturn, 1) := by decide +kernel
theorem dX4_wordToken_8 : decode cX4_wordToken 8 = .ok (.aload_n 0, 1) := by decide +kernel
theorem dX4_wordToken_9 : decode cX4_wordToken 9 = .ok (.getfield 11, 3) := by decide +kernel
theorem dX4_wordToken_12 : decode cX4_wordToken 12 = .ok (.iload_n 1, 1) := by decide +kernel
theorem dX4_wordToken_13 : decode cX4_wordToken 13 = .ok (.laload, 1) := by decide +kernel
theorem dX4_wordToken_14 : decode cX4_wordToken 14 = .ok (.aload_n 0, 1) := by decide +kernel
theorem dX4_wordToken_15 : decode cX4_wordToken 15 = .ok (.getfield 37, 3) := by decide +kernel
theorem dX4_wordToken_18 : decode cX4_wordToken 18 = .ok (.lcmp, 1) := by decide +kernel
theorem dX4_wordToken_19 : decode cX4_wordToken 19 = .ok (.ifCond .ne 9, 3) := by decide +kernel
theorem dX4_wordToken_28 : decode cX4_wordToken 28 = .ok (.iinc 1 1, 3) := by decide +kernel
theorem dX4_wordToken_31 : decode cX4_wordToken 31 = .ok (.goto (-29), 3) := by decide +kernel
theorem dX4_wordToken_22 : decode cX4_wordToken 22 = .ok (.sipush 256, 3) := by decide +kernel
theorem dX4_wordToken_25 : decode cX4_wordToken 25 = .ok (.iload_n 1, 1) := by decide +kernel
theorem dX4_wordToken_26 : decode cX4_wordToken 26 = .ok (.iadd, 1) := by decide +kernel
theorem dX4_wordToken_27 : decode cX4_wordToken 27 = .ok (.ireturn, 1) := by decide +kernel
theorem dX4_stepOverWord_0 : decode cX4_stepOverWord 0 = .ok (.aload_n 0, 1) := by decide +kernel
theorem dX4_stepOverWord_1 : decode cX4_stepOverWord 1 = .ok (.lconst 0, 1) := by decide +kernel
theorem dX4_stepOverWord_2 : decode cX4_stepOverWord 2 = .ok (.putfield 37, 3) := by decide +kernel
theorem dX4_stepOverWord_5 : decode cX4_stepOverWord 5 = .ok (.aload_n 0, 1) := by decide +kernel
theorem dX4_stepOverWord_6 : decode cX4_stepOverWord 6 = .ok (.getfield 25, 3) := by decide +kernel
theorem dX4_stepOverWord_9 : decode cX4_stepOverWord 9 = .ok (.aload_n 0, 1) := by decide +kernel
theorem dX4_stepOverWord_10 : decode cX4_stepOverWord 10 = .ok (.getfield 21, 3) := by decide +kernel
theorem dX4_stepOverWord_13 : decode cX4_stepOverWord 13 = .ok (.if_icmp .ge 65, 3) := by decide +kernel
theorem dX4_stepOverWord_78 : decode cX4_stepOverWord 78 = .ok (.aload_n 0, 1) := by decide +kernel
theorem dX4_stepOverWord_79 : decode cX4_stepOverWord 79 = .ok (.aload_n 0, 1) := by decide +kernel
theorem dX4_stepOverWord_80 : decode cX4_stepOverWord 80 = .ok (.getfield 25, 3) := by decide +kernel
theorem dX4_stepOverWord_83 : decode cX4_stepOverWord 83 = .ok (.aload_n 0, 1) := by decide +kernel
theorem dX4_stepOverWord_84 : decode cX4_stepOverWord 84 = .ok (.getfield 31, 3) := by decide +kernel
theorem dX4_stepOverWord_87 : decode cX4_stepOverWord 87 = .ok (.isub, 1) := by decide +kernel
theorem dX4_stepOverWord_88 : decode cX4_stepOverWord 88 = .ok (.bipush 8, 2) := by decide +kernel
theorem dX4_stepOverWord_90 : decode cX4_stepOverWord 90 = .ok (.if_icmp .le 7, 3) := by decide +kernel
theorem dX4_stepOverWord_97 : decode cX4_stepOverWord 97 = .ok (.aload_n 0, 1) := by decide +kernel
theorem dX4_stepOverWord_98 : decode cX4_stepOverWord 98 = .ok (.invokevirtual 117, 3) := by decide +kernel
theorem dX4_stepOverWord_101 : decode cX4_stepOverWord 101 = .ok (.putfield 28, 3) := by decide +kernel
theorem dX4_stepOverWord_104 : decode cX4_stepOverWord 104 = .ok (.return_, 1) := by decide +kernel
theorem dX4_stepOverWord_93 : decode cX4_stepOverWord 93 = .ok (.iconst 1, 1) := by decide +kernel
theorem dX4_stepOverWord_94 : decode cX4_stepOverWord 94 = .ok (.goto 7, 3) := by decide +kernel
theorem dX4_stepOverWord_16 : decode cX4_stepOverWord 16 = .ok (.aload_n 0, 1) := by decide +kernel
theorem dX4_stepOverWord_17 : decode cX4_stepOverWord 17 = .ok (.getfield 17, 3) := by decide +kernel
theorem dX4_stepOverWord_20 : decode cX4_stepOverWord 20 = .ok (.aload_n 0, 1) := by decide +kernel
theorem dX4_stepOverWord_21 : decode cX4_stepOverWord 21 = .ok (.getfield 25, 3) := by decide +kernel
theorem dX4_stepOverWord_24 : decode cX4_stepOverWord 24 = .ok (.baload, 1) := by decide +kernel
theorem dX4_stepOverWord_25 : decode cX4_stepOverWord 25 = .ok (.invokestatic 102, 3) := by decide +kernel
theorem dX4_stepOverWord_28 : decode cX4_stepOverWord 28 = .ok (.ifCond .eq 50, 3) := by decide +kernel
theorem dX4_stepOverWord_31 : decode cX4_stepOverWord 31 = .ok (.aload_n 0, 1) := by decide +kernel
theorem dX4_stepOverWord_32 : decode cX4_stepOverWord 32 = .ok (.getfield 25, 3) := by decide +kernel
theorem dX4_stepOverWord_35 : decode cX4_stepOverWord 35 = .ok (.aload_n 0, 1) := by decide +kernel
theorem dX4_stepOverWord_36 : decode cX4_stepOverWord 36 = .ok (.getfield 31, 3) := by decide +kernel
theorem dX4_stepOverWord_39 : decode cX4_stepOverWord 39 = .ok (.isub, 1) := by decide +kernel
theorem dX4_stepOverWord_40 : decode cX4_stepOverWord 40 = .ok (.bipush 8, 2) := by decide +kernel
theorem dX4_stepOverWord_42 : decode cX4_stepOverWord 42 = .ok (.if_icmp .ge 23, 3) := by decide +kernel
theorem dX4_stepOverWord_65 : decode cX4_stepOverWord 65 = .ok (.aload_n 0, 1) := by decide +kernel
theorem dX4_stepOverWord_66 : decode cX4_stepOverWord 66 = .ok (.dup, 1) := by decide +kernel
theorem dX4_stepOverWord_67 : decode cX4_stepOverWord 67 = .ok (.getfield 25, 3) := by decide +kernel
theorem dX4_stepOverWord_70 : decode cX4_stepOverWord 70 = .ok (.iconst 1, 1) := by decide +kernel
theorem dX4_stepOverWord_71 : decode cX4_stepOverWord 71 = .ok (.iadd, 1) := by decide +kernel
theorem dX4_stepOverWord_72 : decode cX4_stepOverWord 72 = .ok (.putfield 25, 3) := by decide +kernel
theorem dX4_stepOverWord_75 : decode cX4_stepOverWord 75 = .ok (.goto (-70), 3) := by decide +kernel
theorem dX4_stepOverWord_45 : decode cX4_stepOverWord 45 = .ok (.aload_n 0, 1) := by decide +kernel
theorem dX4_stepOverWord_46 : decode cX4_stepOverWord 46 = .ok (.aload_n 0, 1) := by decide +kernel
theorem dX4_stepOverWord_47 : decode cX4_stepOverWord 47 = .ok (.getfield 37, 3) := by decide +kernel
theorem dX4_stepOverWord_50 : decode cX4_stepOverWord 50 = .ok (.aload_n 0, 1) := by decide +kernel
theorem dX4_stepOverWord_51 : decode cX4_stepOverWord 51 = .ok (.getfield 17, 3) := by decide +kernel
theorem dX4_stepOverWord_54 : decode cX4_stepOverWord 54 = .ok (.aload_n 0, 1) := by decide +kernel
theorem dX4_stepOverWord_55 : decode cX4_stepOverWord 55 = .ok (.getfield 25, 3) := by decide +kernel
theorem dX4_stepOverWord_58 : decode cX4_stepOverWord 58 = .ok (.baload, 1) := by decide +kernel
theorem dX4_stepOverWord_59 : decode cX4_stepOverWord 59 = .ok (.invokestatic 65, 3) := by decide +kernel
theorem dX4_stepOverWord_62 : decode cX4_stepOverWord 62 = .ok (.putfield 37, 3) := by decide +kernel
theorem dX4_stepOverNumber_0 : decode cX4_stepOverNumber 0 = .ok (.aload_n 0, 1) := by decide +kernel
theorem dX4_stepOverNumber_1 : decode cX4_stepOverNumber 1 = .ok (.iconst 0, 1) := by decide +kernel
theorem dX4_stepOverNumber_2 : decode cX4_stepOverNumber 2 = .ok (.putfield 34, 3) := by decide +kernel
theorem dX4_stepOverNumber_5 : decode cX4_stepOverNumber 5 = .ok (.aload_n 0, 1) := by decide +kernel
theorem dX4_stepOverNumber_6 : decode cX4_stepOverNumber 6 = .ok (.getfield 25, 3) := by decide +kernel
theorem dX4_stepOverNumber_9 : decode cX4_stepOverNumber 9 = .ok (.aload_n 0, 1) := by decide +kernel
theorem dX4_stepOverNumber_10 : decode cX4_stepOverNumber 10 = .ok (.getfield 21, 3) := by decide +kernel
theorem dX4_stepOverNumber_13 : decode cX4_stepOverNumber 13 = .ok (.if_icmp .ge 68, 3) := by decide +kernel
theorem dX4_stepOverNumber_81 : decode cX4_stepOverNumber 81 = .ok (.aload_n 0, 1) := by decide +kernel
theorem dX4_stepOverNumber_82 : decode cX4_stepOverNumber 82 = .ok (.getfield 25, 3) := by decide +kernel
theorem dX4_stepOverNumber_85 : decode cX4_stepOverNumber 85 = .ok (.aload_n 0, 1) := by decide +kernel
theorem dX4_stepOverNumber_86 : decode cX4_stepOverNumber 86 = .ok (.getfield 21, 3) := by decide +kernel
theorem dX4_stepOverNumber_89 : decode cX4_stepOverNumber 89 = .ok (.if_icmp .ge 22, 3) := by decide +kernel
theorem dX4_stepOverNumber_111 : decode cX4_stepOverNumber 111 = .ok (.iconst 0, 1) := by decide +kernel
theorem dX4_stepOverNumber_112 : decode cX4_stepOverNumber 112 = .ok (.istore_n 1, 1) := by decide +kernel
theorem dX4_stepOverNumber_113 : decode cX4_stepOverNumber 113 = .ok (.aload_n 0, 1) := by decide +kernel
theorem dX4_stepOverNumber_114 : decode cX4_stepOverNumber 114 = .ok (.aload_n 0, 1) := by decide +kernel
theorem dX4_stepOverNumber_115 : decode cX4_stepOverNumber 115 = .ok (.getfield 25, 3) := by decide +kernel
theorem dX4_stepOverNumber_118 : decode cX4_stepOverNumber 118 = .ok (.aload_n 0, 1) := by decide +kernel
theorem dX4_stepOverNumber_119 : decode cX4_stepOverNumber 119 = .ok (.getfield 31, 3) := by decide +kernel
theorem dX4_stepOverNumber_122 : decode cX4_stepOverNumber 122 = .ok (.isub, 1) := by decide +kernel
theorem dX4_stepOverNumber_123 : decode cX4_stepOverNumber 123 = .ok (.iconst 4, 1) := by decide +kernel
theorem dX4_stepOverNumber_124 : decode cX4_stepOverNumber 124 = .ok (.if_icmp .gt 7, 3) := by decide +kernel
theorem dX4_stepOverNumber_131 : decode cX4_stepOverNumber 131 = .ok (.iconst 1, 1) := by decide +kernel
theorem dX4_stepOverNumber_132 : decode cX4_stepOverNumber 132 = .ok (.goto 4, 3) := by decide +kernel
theorem dX4_stepOverNumber_136 : decode cX4_stepOverNumber 136 = .ok (.putfield 28, 3) := by decide +kernel
theorem dX4_stepOverNumber_139 : decode cX4_stepOverNumber 139 = .ok (.return_, 1) := by decide +kernel
theorem dX4_stepOverNumber_127 : decode cX4_stepOverNumber 127 = .ok (.iload_n 1, 1) := by decide +kernel
theorem dX4_stepOverNumber_128 : decode cX4_stepOverNumber 128 = .ok (.ifCond .eq 7, 3) := by decide +kernel
theorem dX4_stepOverNumber_135 : decode cX4_stepOverNumber 135 = .ok (.iconst 3, 1) := by decide +kernel
theorem dX4_stepOverNumber_92 : decode cX4_stepOverNumber 92 = .ok (.aload_n 0, 1) := by decide +kernel
theorem dX4_stepOverNumber_93 : decode cX4_stepOverNumber 93 = .ok (.getfield 17, 3) := by decide +kernel
theorem dX4_stepOverNumber_96 : decode cX4_stepOverNumber 96 = .ok (.aload_n 0, 1) := by decide +kernel
theorem dX4_stepOverNumber_97 : decode cX4_stepOverNumber 97 = .ok (.getfield 25, 3) := by decide +kernel
theorem dX4_stepOverNumber_100 : decode cX4_stepOverNumber 100 = .ok (.baload, 1) := by decide +kernel
theorem dX4_stepOverNumber_101 : decode cX4_stepOverNumber 101 = .ok (.invokestatic 102, 3) := by decide +kernel
theorem dX4_stepOverNumber_104 : decode cX4_stepOverNumber 104 = .ok (.ifCond .eq 7, 3) := by decide +kernel
theorem dX4_stepOverNumber_107 : decode cX4_stepOverNumber 107 = .ok (.iconst 1, 1) := by decide +kernel
theorem dX4_stepOverNumber_108 : decode cX4_stepOverNumber 108 = .ok (.goto 4, 3) := by decide +kernel
theorem dX4_stepOverNumber_16 : decode cX4_stepOverNumber 16 = .ok (.aload_n 0, 1) := by decide +kernel
theorem dX4_stepOverNumber_17 : decode cX4_stepOverNumber 17 = .ok (.getfield 17, 3) := by decide +kernel
theorem dX4_stepOverNumber_20 : decode cX4_stepOverNumber 20 = .ok (.aload_n 0, 1) := by decide +kernel
theorem dX4_stepOverNumber_21 : decode cX4_stepOverNumber 21 = .ok (.getfield 25, 3) := by decide +kernel
theorem dX4_stepOverNumber_24 : decode cX4_stepOverNumber 24 = .ok (.baload, 1) := by decide +kernel
theorem dX4_stepOverNumber_25 : decode cX4_stepOverNumber 25 = .ok (.invokestatic 108, 3) := by decide +kernel
theorem dX4_stepOverNumber_28 : decode cX4_stepOverNumber 28 = .ok (.ifCond .eq 53, 3) := by decide +kernel
theorem dX4_stepOverNumber_31 : decode cX4_stepOverNumber 31 = .ok (.aload_n 0, 1) := by decide +kernel
theorem dX4_stepOverNumber_32 : decode cX4_stepOverNumber 32 = .ok (.getfield 25, 3) := by decide +kernel
theorem dX4_stepOverNumber_35 : decode cX4_stepOverNumber 35 = .ok (.aload_n 0, 1) := by decide +kernel
theorem dX4_stepOverNumber_36 : decode cX4_stepOverNumber 36 = .ok (.getfield 31, 3) := by decide +kernel
theorem dX4_stepOverNumber_39 : decode cX4_stepOverNumber 39 = .ok (.isub, 1) := by decide +kernel
theorem dX4_stepOverNumber_40 : decode cX4_stepOverNumber 40 = .ok (.iconst 4, 1) := by decide +kernel
theorem dX4_stepOverNumber_41 : decode cX4_stepOverNumber 41 = .ok (.if_icmp .ge 27, 3) := by decide +kernel
theorem dX4_stepOverNumber_68 : decode cX4_stepOverNumber 68 = .ok (.aload_n 0, 1) := by decide +kernel
theorem dX4_stepOverNumber_69 : decode cX4_stepOverNumber 69 = .ok (.dup, 1) := by decide +kernel
theorem dX4_stepOverNumber_70 : decode cX4_stepOverNumber 70 = .ok (.getfield 25, 3) := by decide +kernel
theorem dX4_stepOverNumber_73 : decode cX4_stepOverNumber 73 = .ok (.iconst 1, 1) := by decide +kernel
theorem dX4_stepOverNumber_74 : decode cX4_stepOverNumber 74 = .ok (.iadd, 1) := by decide +kernel
theorem dX4_stepOverNumber_75 : decode cX4_stepOverNumber 75 = .ok (.putfield 25, 3) := by decide +kernel
theorem dX4_stepOverNumber_78 : decode cX4_stepOverNumber 78 = .ok (.goto (-73), 3) := by decide +kernel
theorem dX4_stepOverNumber_44 : decode cX4_stepOverNumber 44 = .ok (.aload_n 0, 1) := by decide +kernel
theorem dX4_stepOverNumber_45 : decode cX4_stepOverNumber 45 = .ok (.bipush 10, 2) := by decide +kernel
theorem dX4_stepOverNumber_47 : decode cX4_stepOverNumber 47 = .ok (.aload_n 0, 1) := by decide +kernel
theorem dX4_stepOverNumber_48 : decode cX4_stepOverNumber 48 = .ok (.getfield 34, 3) := by decide +kernel
theorem dX4_stepOverNumber_51 : decode cX4_stepOverNumber 51 = .ok (.imul, 1) := by decide +kernel
theorem dX4_stepOverNumber_52 : decode cX4_stepOverNumber 52 = .ok (.aload_n 0, 1) := by decide +kernel
theorem dX4_stepOverNumber_53 : decode cX4_stepOverNumber 53 = .ok (.getfield 17, 3) := by decide +kernel
theorem dX4_stepOverNumber_56 : decode cX4_stepOverNumber 56 = .ok (.aload_n 0, 1) := by decide +kernel
theorem dX4_stepOverNumber_57 : decode cX4_stepOverNumber 57 = .ok (.getfield 25, 3) := by decide +kernel
theorem dX4_stepOverNumber_60 : decode cX4_stepOverNumber 60 = .ok (.baload, 1) := by decide +kernel
theorem dX4_stepOverNumber_61 : decode cX4_stepOverNumber 61 = .ok (.iadd, 1) := by decide +kernel
theorem dX4_stepOverNumber_62 : decode cX4_stepOverNumber 62 = .ok (.bipush 48, 2) := by decide +kernel
theorem dX4_stepOverNumber_64 : decode cX4_stepOverNumber 64 = .ok (.isub, 1) := by decide +kernel
theorem dX4_stepOverNumber_65 : decode cX4_stepOverNumber 65 = .ok (.putfield 34, 3) := by decide +kernel
theorem dX4_step_0 : decode cX4_step 0 = .ok (.aload_n 0, 1) := by decide +kernel
theorem dX4_step_1 : decode cX4_step 1 = .ok (.getfield 25, 3) := by decide +kernel
theorem dX4_step_4 : decode cX4_step 4 = .ok (.aload_n 0, 1) := by decide +kernel
theorem dX4_step_5 : decode cX4_step 5 = .ok (.getfield 21, 3) := by decide +kernel
theorem dX4_step_8 : decode cX4_step 8 = .ok (.if_icmp .ge 31, 3) := by decide +kernel
theorem dX4_step_39 : decode cX4_step 39 = .ok (.aload_n 0, 1) := by decide +kernel
theorem dX4_step_40 : decode cX4_step 40 = .ok (.aload_n 0, 1) := by decide +kernel
theorem dX4_step_41 : decode cX4_step 41 = .ok (.getfield 25, 3) := by decide +kernel
theorem dX4_step_44 : decode cX4_step 44 = .ok (.putfield 31, 3) := by decide +kernel
theorem dX4_step_47 : decode cX4_step 47 = .ok (.aload_n 0, 1) := by decide +kernel
theorem dX4_step_48 : decode cX4_step 48 = .ok (.getfield 25, 3) := by decide +kernel
theorem dX4_step_51 : decode cX4_step 51 = .ok (.aload_n 0, 1) := by decide +kernel
theorem dX4_step_52 : decode cX4_step 52 = .ok (.getfield 21, 3) := by decide +kernel
theorem dX4_step_55 : decode cX4_step 55 = .ok (.if_icmp .lt 11, 3) := by decide +kernel
theorem dX4_step_66 : decode cX4_step 66 = .ok (.aload_n 0, 1) := by decide +kernel
theorem dX4_step_67 : decode cX4_step 67 = .ok (.getfield 17, 3) := by decide +kernel
theorem dX4_step_70 : decode cX4_step 70 = .ok (.aload_n 0, 1) := by decide +kernel
theorem dX4_step_71 : decode cX4_step 71 = .ok (.getfield 25, 3) := by decide +kernel
theorem dX4_step_74 : decode cX4_step 74 = .ok (.baload, 1) := by decide +kernel
theorem dX4_step_75 : decode cX4_step 75 = .ok (.invokestatic 102, 3) := by decide +kernel
theorem dX4_step_78 : decode cX4_step 78 = .ok (.ifCond .eq 10, 3) := by decide +kernel
theorem dX4_step_81 : decode cX4_step 81 = .ok (.aload_n 0, 1) := by decide +kernel
theorem dX4_step_82 : decode cX4_step 82 = .ok (.invokevirtual 105, 3) := by decide +kernel
theorem dX4_step_85 : decode cX4_step 85 = .ok (.goto 71, 3) := by decide +kernel
theorem dX4_step_156 : decode cX4_step 156 = .ok (.return_, 1) := by decide +kernel
theorem dX4_step_88 : decode cX4_step 88 = .ok (.aload_n 0, 1) := by decide +kernel
theorem dX4_step_89 : decode cX4_step 89 = .ok (.getfield 17, 3) := by decide +kernel
theorem dX4_step_92 : decode cX4_step 92 = .ok (.aload_n 0, 1) := by decide +kernel
theorem dX4_step_93 : decode cX4_step 93 = .ok (.getfield 25, 3) := by decide +kernel
theorem dX4_step_96 : decode cX4_step 96 = .ok (.baload, 1) := by decide +kernel
theorem dX4_step_97 : decode cX4_step 97 = .ok (.invokestatic 108, 3) := by decide +kernel
theorem dX4_step_100 : decode cX4_step 100 = .ok (.ifCond .eq 10, 3) := by decide +kernel
theorem dX4_step_103 : decode cX4_step 103 = .ok (.aload_n 0, 1) := by decide +kernel
theorem dX4_step_104 : decode cX4_step 104 = .ok (.invokevirtual 111, 3) := by decide +kernel
theorem dX4_step_107 : decode cX4_step 107 = .ok (.goto 49, 3) := by decide +kernel
theorem dX4_step_110 : decode cX4_step 110 = .ok (.aload_n 0, 1) := by decide +kernel
theorem dX4_step_111 : decode cX4_step 111 = .ok (.getfield 17, 3) := by decide +kernel
theorem dX4_step_114 : decode cX4_step 114 = .ok (.aload_n 0, 1) := by decide +kernel
theorem dX4_step_115 : decode cX4_step 115 = .ok (.getfield 25, 3) := by decide +kernel
theorem dX4_step_118 : decode cX4_step 118 = .ok (.baload, 1) := by decide +kernel
theorem dX4_step_119 : decode cX4_step 119 = .ok (.invokestatic 114, 3) := by decide +kernel
theorem dX4_step_122 : decode cX4_step 122 = .ok (.ifCond .eq 29, 3) := by decide +kernel
theorem dX4_step_125 : decode cX4_step 125 = .ok (.aload_n 0, 1) := by decide +kernel
theorem dX4_step_126 : decode cX4_step 126 = .ok (.aload_n 0, 1) := by decide +kernel
theorem dX4_step_127 : decode cX4_step 127 = .ok (.getfield 17, 3) := by decide +kernel
theorem dX4_step_130 : decode cX4_step 130 = .ok (.aload_n 0, 1) := by decide +kernel
theorem dX4_step_131 : decode cX4_step 131 = .ok (.getfield 25, 3) := by decide +kernel
theorem dX4_step_134 : decode cX4_step 134 = .ok (.baload, 1) := by decide +kernel
theorem dX4_step_135 : decode cX4_step 135 = .ok (.putfield 28, 3) := by decide +kernel
theorem dX4_step_138 : decode cX4_step 138 = .ok (.aload_n 0, 1) := by decide +kernel
theorem dX4_step_139 : decode cX4_step 139 = .ok (.dup, 1) := by decide +kernel
theorem dX4_step_140 : decode cX4_step 140 = .ok (.getfield 25, 3) := by decide +kernel
theorem dX4_step_143 : decode cX4_step 143 = .ok (.iconst 1, 1) := by decide +kernel
theorem dX4_step_144 : decode cX4_step 144 = .ok (.iadd, 1) := by decide +kernel
theorem dX4_step_145 : decode cX4_step 145 = .ok (.putfield 25, 3) := by decide +kernel
theorem dX4_step_148 : decode cX4_step 148 = .ok (.goto 8, 3) := by decide +kernel
theorem dX4_step_151 : decode cX4_step 151 = .ok (.aload_n 0, 1) := by decide +kernel
theorem dX4_step_152 : decode cX4_step 152 = .ok (.iconst 1, 1) := by decide +kernel
theorem dX4_step_153 : decode cX4_step 153 = .ok (.putfield 28, 3) := by decide +kernel
theorem dX4_step_58 : decode cX4_step 58 = .ok (.aload_n 0, 1) := by decide +kernel
theorem dX4_step_59 : decode cX4_step 59 = .ok (.iconst 0, 1) := by decide +kernel
theorem dX4_step_60 : decode cX4_step 60 = .ok (.putfield 28, 3) := by decide +kernel
theorem dX4_step_63 : decode cX4_step 63 = .ok (.goto 93, 3) := by decide +kernel
theorem dX4_step_11 : decode cX4_step 11 = .ok (.aload_n 0, 1) := by decide +kernel
theorem dX4_step_12 : decode cX4_step 12 = .ok (.getfield 17, 3) := by decide +kernel
theorem dX4_step_15 : decode cX4_step 15 = .ok (.aload_n 0, 1) := by decide +kernel
theorem dX4_step_16 : decode cX4_step 16 = .ok (.getfield 25, 3) := by decide +kernel
theorem dX4_step_19 : decode cX4_step 19 = .ok (.baload, 1) := by decide +kernel
theorem dX4_step_20 : decode cX4_step 20 = .ok (.invokestatic 98, 3) := by decide +kernel
theorem dX4_step_23 : decode cX4_step 23 = .ok (.ifCond .eq 16, 3) := by decide +kernel
theorem dX4_step_26 : decode cX4_step 26 = .ok (.aload_n 0, 1) := by decide +kernel
theorem dX4_step_27 : decode cX4_step 27 = .ok (.dup, 1) := by decide +kernel
theorem dX4_step_28 : decode cX4_step 28 = .ok (.getfield 25, 3) := by decide +kernel
theorem dX4_step_31 : decode cX4_step 31 = .ok (.iconst 1, 1) := by decide +kernel
theorem dX4_step_32 : decode cX4_step 32 = .ok (.iadd, 1) := by decide +kernel
theorem dX4_step_33 : decode cX4_step 33 = .ok (.putfield 25, 3) := by decide +kernel
theorem dX4_step_36 : decode cX4_step 36 = .ok (.goto (-36), 3) := by decide +kernel
theorem dX4_take_0 : decode cX4_take 0 = .ok (.aload_n 0, 1) := by decide +kernel
theorem dX4_take_1 : decode cX4_take 1 = .ok (.getfield 28, 3) := by decide +kernel
theorem dX4_take_4 : decode cX4_take 4 = .ok (.iload_n 1, 1) := by decide +kernel
theorem dX4_take_5 : decode cX4_take 5 = .ok (.if_icmp .eq 9, 3) := by decide +kernel
theorem dX4_take_14 : decode cX4_take 14 = .ok (.aload_n 0, 1) := by decide +kernel
theorem dX4_take_15 : decode cX4_take 15 = .ok (.invokevirtual 78, 3) := by decide +kernel
theorem dX4_take_18 : decode cX4_take 18 = .ok (.iconst 1, 1) := by decide +kernel
theorem dX4_take_19 : decode cX4_take 19 = .ok (.ireturn, 1) := by decide +kernel
theorem dX4_take_8 : decode cX4_take 8 = .ok (.aload_n 0, 1) := by decide +kernel
theorem dX4_take_9 : decode cX4_take 9 = .ok (.iconst 2, 1) := by decide +kernel
theorem dX4_take_10 : decode cX4_take 10 = .ok (.invokevirtual 124, 3) := by decide +kernel
theorem dX4_take_13 : decode cX4_take 13 = .ok (.ireturn, 1) := by decide +kernel
theorem dX4_takeInto_0 : decode cX4_takeInto 0 = .ok (.aload_n 0, 1) := by decide +kernel
theorem dX4_takeInto_1 : decode cX4_takeInto 1 = .ok (.getfield 28, 3) := by decide +kernel
theorem dX4_takeInto_4 : decode cX4_takeInto 4 = .ok (.iconst 3, 1) := by decide +kernel
theorem dX4_takeInto_5 : decode cX4_takeInto 5 = .ok (.if_icmp .eq 9, 3) := by decide +kernel
theorem dX4_takeInto_14 : decode cX4_takeInto 14 = .ok (.aload_n 0, 1) := by decide +kernel
theorem dX4_takeInto_15 : decode cX4_takeInto 15 = .ok (.getfield 34, 3) := by decide +kernel
theorem dX4_takeInto_18 : decode cX4_takeInto 18 = .ok (.iload_n 3, 1) := by decide +kernel
theorem dX4_takeInto_19 : decode cX4_takeInto 19 = .ok (.if_icmp .lt 12, 3) := by decide +kernel
theorem dX4_takeInto_31 : decode cX4_takeInto 31 = .ok (.aload_n 0, 1) := by decide +kernel
theorem dX4_takeInto_32 : decode cX4_takeInto 32 = .ok (.iconst 4, 1) := by decide +kernel
theorem dX4_takeInto_33 : decode cX4_takeInto 33 = .ok (.invokevirtual 124, 3) := by decide +kernel
theorem dX4_takeInto_36 : decode cX4_takeInto 36 = .ok (.ireturn, 1) := by decide +kernel
theorem dX4_takeInto_22 : decode cX4_takeInto 22 = .ok (.aload_n 0, 1) := by decide +kernel
theorem dX4_takeInto_23 : decode cX4_takeInto 23 = .ok (.getfield 34, 3) := by decide +kernel
theorem dX4_takeInto_26 : decode cX4_takeInto 26 = .ok (.iload 4, 2) := by decide +kernel
theorem dX4_takeInto_28 : decode cX4_takeInto 28 = .ok (.if_icmp .le 9, 3) := by decide +kernel
theorem dX4_takeInto_37 : decode cX4_takeInto 37 = .ok (.aload_n 1, 1) := by decide +kernel
theorem dX4_takeInto_38 : decode cX4_takeInto 38 = .ok (.iload_n 2, 1) := by decide +kernel
theorem dX4_takeInto_39 : decode cX4_takeInto 39 = .ok (.aload_n 0, 1) := by decide +kernel
theorem dX4_takeInto_40 : decode cX4_takeInto 40 = .ok (.getfield 34, 3) := by decide +kernel
theorem dX4_takeInto_43 : decode cX4_takeInto 43 = .ok (.iastore, 1) := by decide +kernel
theorem dX4_takeInto_44 : decode cX4_takeInto 44 = .ok (.aload_n 0, 1) := by decide +kernel
theorem dX4_takeInto_45 : decode cX4_takeInto 45 = .ok (.invokevirtual 78, 3) := by decide +kernel
theorem dX4_takeInto_48 : decode cX4_takeInto 48 = .ok (.iconst 1, 1) := by decide +kernel
theorem dX4_takeInto_49 : decode cX4_takeInto 49 = .ok (.ireturn, 1) := by decide +kernel
theorem dX4_takeInto_8 : decode cX4_takeInto 8 = .ok (.aload_n 0, 1) := by decide +kernel
theorem dX4_takeInto_9 : decode cX4_takeInto 9 = .ok (.iconst 2, 1) := by decide +kernel
theorem dX4_takeInto_10 : decode cX4_takeInto 10 = .ok (.invokevirtual 124, 3) := by decide +kernel
theorem dX4_takeInto_13 : decode cX4_takeInto 13 = .ok (.ireturn, 1) := by decide +kernel
