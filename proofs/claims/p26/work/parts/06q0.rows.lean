theorem dX9_sign_0 : decode cX9_sign 0 = .ok (.iload_n 1, 1) := by decide +kernel
theorem dX9_sign_1 : decode cX9_sign 1 = .ok (.aload_n 0, 1) := by decide +kernel
theorem dX9_sign_2 : decode cX9_sign 2 = .ok (.getfield 170, 3) := by decide +kernel
theorem dX9_sign_5 : decode cX9_sign 5 = .ok (.if_icmp .ge 16, 3) := by decide +kernel
theorem dX9_sign_21 : decode cX9_sign 21 = .ok (.iconst 0, 1) := by decide +kernel
theorem dX9_sign_22 : decode cX9_sign 22 = .ok (.ireturn, 1) := by decide +kernel
theorem dX9_sign_8 : decode cX9_sign 8 = .ok (.aload_n 0, 1) := by decide +kernel
theorem dX9_sign_9 : decode cX9_sign 9 = .ok (.getfield 13, 3) := by decide +kernel
theorem dX9_sign_12 : decode cX9_sign 12 = .ok (.iload_n 1, 1) := by decide +kernel
theorem dX9_sign_13 : decode cX9_sign 13 = .ok (.baload, 1) := by decide +kernel
theorem dX9_sign_14 : decode cX9_sign 14 = .ok (.sipush 255, 3) := by decide +kernel
theorem dX9_sign_17 : decode cX9_sign 17 = .ok (.iand, 1) := by decide +kernel
theorem dX9_sign_18 : decode cX9_sign 18 = .ok (.goto 4, 3) := by decide +kernel
theorem dX9_isDigit_0 : decode cX9_isDigit 0 = .ok (.iload_n 0, 1) := by decide +kernel
theorem dX9_isDigit_1 : decode cX9_isDigit 1 = .ok (.bipush 48, 2) := by decide +kernel
theorem dX9_isDigit_3 : decode cX9_isDigit 3 = .ok (.if_icmp .lt 13, 3) := by decide +kernel
theorem dX9_isDigit_16 : decode cX9_isDigit 16 = .ok (.iconst 0, 1) := by decide +kernel
theorem dX9_isDigit_17 : decode cX9_isDigit 17 = .ok (.ireturn, 1) := by decide +kernel
theorem dX9_isDigit_6 : decode cX9_isDigit 6 = .ok (.iload_n 0, 1) := by decide +kernel
theorem dX9_isDigit_7 : decode cX9_isDigit 7 = .ok (.bipush 57, 2) := by decide +kernel
theorem dX9_isDigit_9 : decode cX9_isDigit 9 = .ok (.if_icmp .gt 7, 3) := by decide +kernel
theorem dX9_isDigit_12 : decode cX9_isDigit 12 = .ok (.iconst 1, 1) := by decide +kernel
theorem dX9_isDigit_13 : decode cX9_isDigit 13 = .ok (.goto 4, 3) := by decide +kernel
theorem dX9_isSign_0 : decode cX9_isSign 0 = .ok (.iload_n 0, 1) := by decide +kernel
theorem dX9_isSign_1 : decode cX9_isSign 1 = .ok (.bipush 59, 2) := by decide +kernel
theorem dX9_isSign_3 : decode cX9_isSign 3 = .ok (.if_icmp .eq 57, 3) := by decide +kernel
theorem dX9_isSign_60 : decode cX9_isSign 60 = .ok (.iconst 1, 1) := by decide +kernel
theorem dX9_isSign_61 : decode cX9_isSign 61 = .ok (.goto 4, 3) := by decide +kernel
theorem dX9_isSign_65 : decode cX9_isSign 65 = .ok (.ireturn, 1) := by decide +kernel
theorem dX9_isSign_6 : decode cX9_isSign 6 = .ok (.iload_n 0, 1) := by decide +kernel
theorem dX9_isSign_7 : decode cX9_isSign 7 = .ok (.bipush 40, 2) := by decide +kernel
theorem dX9_isSign_9 : decode cX9_isSign 9 = .ok (.if_icmp .eq 51, 3) := by decide +kernel
theorem dX9_isSign_12 : decode cX9_isSign 12 = .ok (.iload_n 0, 1) := by decide +kernel
theorem dX9_isSign_13 : decode cX9_isSign 13 = .ok (.bipush 41, 2) := by decide +kernel
theorem dX9_isSign_15 : decode cX9_isSign 15 = .ok (.if_icmp .eq 45, 3) := by decide +kernel
theorem dX9_isSign_18 : decode cX9_isSign 18 = .ok (.iload_n 0, 1) := by decide +kernel
theorem dX9_isSign_19 : decode cX9_isSign 19 = .ok (.bipush 60, 2) := by decide +kernel
theorem dX9_isSign_21 : decode cX9_isSign 21 = .ok (.if_icmp .eq 39, 3) := by decide +kernel
theorem dX9_isSign_24 : decode cX9_isSign 24 = .ok (.iload_n 0, 1) := by decide +kernel
theorem dX9_isSign_25 : decode cX9_isSign 25 = .ok (.bipush 62, 2) := by decide +kernel
theorem dX9_isSign_27 : decode cX9_isSign 27 = .ok (.if_icmp .eq 33, 3) := by decide +kernel
theorem dX9_isSign_30 : decode cX9_isSign 30 = .ok (.iload_n 0, 1) := by decide +kernel
theorem dX9_isSign_31 : decode cX9_isSign 31 = .ok (.bipush 61, 2) := by decide +kernel
theorem dX9_isSign_33 : decode cX9_isSign 33 = .ok (.if_icmp .eq 27, 3) := by decide +kernel
theorem dX9_isSign_36 : decode cX9_isSign 36 = .ok (.iload_n 0, 1) := by decide +kernel
theorem dX9_isSign_37 : decode cX9_isSign 37 = .ok (.bipush 43, 2) := by decide +kernel
theorem dX9_isSign_39 : decode cX9_isSign 39 = .ok (.if_icmp .eq 21, 3) := by decide +kernel
theorem dX9_isSign_42 : decode cX9_isSign 42 = .ok (.iload_n 0, 1) := by decide +kernel
theorem dX9_isSign_43 : decode cX9_isSign 43 = .ok (.bipush 45, 2) := by decide +kernel
theorem dX9_isSign_45 : decode cX9_isSign 45 = .ok (.if_icmp .eq 15, 3) := by decide +kernel
theorem dX9_isSign_48 : decode cX9_isSign 48 = .ok (.iload_n 0, 1) := by decide +kernel
theorem dX9_isSign_49 : decode cX9_isSign 49 = .ok (.bipush 42, 2) := by decide +kernel
theorem dX9_isSign_51 : decode cX9_isSign 51 = .ok (.if_icmp .eq 9, 3) := by decide +kernel
theorem dX9_isSign_54 : decode cX9_isSign 54 = .ok (.iload_n 0, 1) := by decide +kernel
theorem dX9_isSign_55 : decode cX9_isSign 55 = .ok (.bipush 47, 2) := by decide +kernel
theorem dX9_isSign_57 : decode cX9_isSign 57 = .ok (.if_icmp .ne 7, 3) := by decide +kernel
theorem dX9_isSign_64 : decode cX9_isSign 64 = .ok (.iconst 0, 1) := by decide +kernel
theorem dX9_isKept_0 : decode cX9_isKept 0 = .ok (.lload_n 0, 1) := by decide +kernel
theorem dX9_isKept_1 : decode cX9_isKept 1 = .ok (.ldc2_w 176, 3) := by decide +kernel
theorem dX9_isKept_4 : decode cX9_isKept 4 = .ok (.lcmp, 1) := by decide +kernel
theorem dX9_isKept_5 : decode cX9_isKept 5 = .ok (.ifCond .eq 83, 3) := by decide +kernel
theorem dX9_isKept_88 : decode cX9_isKept 88 = .ok (.iconst 1, 1) := by decide +kernel
theorem dX9_isKept_89 : decode cX9_isKept 89 = .ok (.goto 4, 3) := by decide +kernel
theorem dX9_isKept_93 : decode cX9_isKept 93 = .ok (.istore_n 2, 1) := by decide +kernel
theorem dX9_isKept_94 : decode cX9_isKept 94 = .ok (.iload_n 2, 1) := by decide +kernel
theorem dX9_isKept_95 : decode cX9_isKept 95 = .ok (.ifCond .ne 91, 3) := by decide +kernel
theorem dX9_isKept_186 : decode cX9_isKept 186 = .ok (.iconst 1, 1) := by decide +kernel
theorem dX9_isKept_187 : decode cX9_isKept 187 = .ok (.goto 4, 3) := by decide +kernel
theorem dX9_isKept_191 : decode cX9_isKept 191 = .ok (.ireturn, 1) := by decide +kernel
theorem dX9_isKept_8 : decode cX9_isKept 8 = .ok (.lload_n 0, 1) := by decide +kernel
theorem dX9_isKept_9 : decode cX9_isKept 9 = .ok (.ldc2_w 178, 3) := by decide +kernel
theorem dX9_isKept_12 : decode cX9_isKept 12 = .ok (.lcmp, 1) := by decide +kernel
theorem dX9_isKept_13 : decode cX9_isKept 13 = .ok (.ifCond .eq 75, 3) := by decide +kernel
theorem dX9_isKept_16 : decode cX9_isKept 16 = .ok (.lload_n 0, 1) := by decide +kernel
theorem dX9_isKept_17 : decode cX9_isKept 17 = .ok (.ldc2_w 180, 3) := by decide +kernel
theorem dX9_isKept_20 : decode cX9_isKept 20 = .ok (.lcmp, 1) := by decide +kernel
theorem dX9_isKept_21 : decode cX9_isKept 21 = .ok (.ifCond .eq 67, 3) := by decide +kernel
theorem dX9_isKept_24 : decode cX9_isKept 24 = .ok (.lload_n 0, 1) := by decide +kernel
theorem dX9_isKept_25 : decode cX9_isKept 25 = .ok (.ldc2_w 182, 3) := by decide +kernel
theorem dX9_isKept_28 : decode cX9_isKept 28 = .ok (.lcmp, 1) := by decide +kernel
theorem dX9_isKept_29 : decode cX9_isKept 29 = .ok (.ifCond .eq 59, 3) := by decide +kernel
theorem dX9_isKept_32 : decode cX9_isKept 32 = .ok (.lload_n 0, 1) := by decide +kernel
theorem dX9_isKept_33 : decode cX9_isKept 33 = .ok (.ldc2_w 184, 3) := by decide +kernel
theorem dX9_isKept_36 : decode cX9_isKept 36 = .ok (.lcmp, 1) := by decide +kernel
theorem dX9_isKept_37 : decode cX9_isKept 37 = .ok (.ifCond .eq 51, 3) := by decide +kernel
theorem dX9_isKept_40 : decode cX9_isKept 40 = .ok (.lload_n 0, 1) := by decide +kernel
theorem dX9_isKept_41 : decode cX9_isKept 41 = .ok (.ldc2_w 186, 3) := by decide +kernel
theorem dX9_isKept_44 : decode cX9_isKept 44 = .ok (.lcmp, 1) := by decide +kernel
theorem dX9_isKept_45 : decode cX9_isKept 45 = .ok (.ifCond .eq 43, 3) := by decide +kernel
theorem dX9_isKept_48 : decode cX9_isKept 48 = .ok (.lload_n 0, 1) := by decide +kernel
theorem dX9_isKept_49 : decode cX9_isKept 49 = .ok (.ldc2_w 188, 3) := by decide +kernel
theorem dX9_isKept_52 : decode cX9_isKept 52 = .ok (.lcmp, 1) := by decide +kernel
theorem dX9_isKept_53 : decode cX9_isKept 53 = .ok (.ifCond .eq 35, 3) := by decide +kernel
theorem dX9_isKept_56 : decode cX9_isKept 56 = .ok (.lload_n 0, 1) := by decide +kernel
theorem dX9_isKept_57 : decode cX9_isKept 57 = .ok (.ldc2_w 190, 3) := by decide +kernel
theorem dX9_isKept_60 : decode cX9_isKept 60 = .ok (.lcmp, 1) := by decide +kernel
theorem dX9_isKept_61 : decode cX9_isKept 61 = .ok (.ifCond .eq 27, 3) := by decide +kernel
theorem dX9_isKept_64 : decode cX9_isKept 64 = .ok (.lload_n 0, 1) := by decide +kernel
theorem dX9_isKept_65 : decode cX9_isKept 65 = .ok (.ldc2_w 192, 3) := by decide +kernel
theorem dX9_isKept_68 : decode cX9_isKept 68 = .ok (.lcmp, 1) := by decide +kernel
theorem dX9_isKept_69 : decode cX9_isKept 69 = .ok (.ifCond .eq 19, 3) := by decide +kernel
theorem dX9_isKept_72 : decode cX9_isKept 72 = .ok (.lload_n 0, 1) := by decide +kernel
theorem dX9_isKept_73 : decode cX9_isKept 73 = .ok (.ldc2_w 194, 3) := by decide +kernel
theorem dX9_isKept_76 : decode cX9_isKept 76 = .ok (.lcmp, 1) := by decide +kernel
theorem dX9_isKept_77 : decode cX9_isKept 77 = .ok (.ifCond .eq 11, 3) := by decide +kernel
theorem dX9_isKept_80 : decode cX9_isKept 80 = .ok (.lload_n 0, 1) := by decide +kernel
theorem dX9_isKept_81 : decode cX9_isKept 81 = .ok (.ldc2_w 196, 3) := by decide +kernel
theorem dX9_isKept_84 : decode cX9_isKept 84 = .ok (.lcmp, 1) := by decide +kernel
theorem dX9_isKept_85 : decode cX9_isKept 85 = .ok (.ifCond .ne 7, 3) := by decide +kernel
theorem dX9_isKept_92 : decode cX9_isKept 92 = .ok (.iconst 0, 1) := by decide +kernel
theorem dX9_isKept_98 : decode cX9_isKept 98 = .ok (.lload_n 0, 1) := by decide +kernel
theorem dX9_isKept_99 : decode cX9_isKept 99 = .ok (.ldc2_w 198, 3) := by decide +kernel
theorem dX9_isKept_102 : decode cX9_isKept 102 = .ok (.lcmp, 1) := by decide +kernel
theorem dX9_isKept_103 : decode cX9_isKept 103 = .ok (.ifCond .eq 83, 3) := by decide +kernel
theorem dX9_isKept_106 : decode cX9_isKept 106 = .ok (.lload_n 0, 1) := by decide +kernel
theorem dX9_isKept_107 : decode cX9_isKept 107 = .ok (.ldc2_w 200, 3) := by decide +kernel
theorem dX9_isKept_110 : decode cX9_isKept 110 = .ok (.lcmp, 1) := by decide +kernel
theorem dX9_isKept_111 : decode cX9_isKept 111 = .ok (.ifCond .eq 75, 3) := by decide +kernel
theorem dX9_isKept_114 : decode cX9_isKept 114 = .ok (.lload_n 0, 1) := by decide +kernel
theorem dX9_isKept_115 : decode cX9_isKept 115 = .ok (.ldc2_w 202, 3) := by decide +kernel
theorem dX9_isKept_118 : decode cX9_isKept 118 = .ok (.lcmp, 1) := by decide +kernel
theorem dX9_isKept_119 : decode cX9_isKept 119 = .ok (.ifCond .eq 67, 3) := by decide +kernel
theorem dX9_isKept_122 : decode cX9_isKept 122 = .ok (.lload_n 0, 1) := by decide +kernel
theorem dX9_isKept_123 : decode cX9_isKept 123 = .ok (.ldc2_w 204, 3) := by decide +kernel
theorem dX9_isKept_126 : decode cX9_isKept 126 = .ok (.lcmp, 1) := by decide +kernel
theorem dX9_isKept_127 : decode cX9_isKept 127 = .ok (.ifCond .eq 59, 3) := by decide +kernel
theorem dX9_isKept_130 : decode cX9_isKept 130 = .ok (.lload_n 0, 1) := by decide +kernel
theorem dX9_isKept_131 : decode cX9_isKept 131 = .ok (.ldc2_w 206, 3) := by decide +kernel
theorem dX9_isKept_134 : decode cX9_isKept 134 = .ok (.lcmp, 1) := by decide +kernel
theorem dX9_isKept_135 : decode cX9_isKept 135 = .ok (.ifCond .eq 51, 3) := by decide +kernel
theorem dX9_isKept_138 : decode cX9_isKept 138 = .ok (.lload_n 0, 1) := by decide +kernel
theorem dX9_isKept_139 : decode cX9_isKept 139 = .ok (.ldc2_w 208, 3) := by decide +kernel
theorem dX9_isKept_142 : decode cX9_isKept 142 = .ok (.lcmp, 1) := by decide +kernel
theorem dX9_isKept_143 : decode cX9_isKept 143 = .ok (.ifCond .eq 43, 3) := by decide +kernel
theorem dX9_isKept_146 : decode cX9_isKept 146 = .ok (.lload_n 0, 1) := by decide +kernel
theorem dX9_isKept_147 : decode cX9_isKept 147 = .ok (.ldc2_w 210, 3) := by decide +kernel
theorem dX9_isKept_150 : decode cX9_isKept 150 = .ok (.lcmp, 1) := by decide +kernel
theorem dX9_isKept_151 : decode cX9_isKept 151 = .ok (.ifCond .eq 35, 3) := by decide +kernel
theorem dX9_isKept_154 : decode cX9_isKept 154 = .ok (.lload_n 0, 1) := by decide +kernel
theorem dX9_isKept_155 : decode cX9_isKept 155 = .ok (.ldc2_w 212, 3) := by decide +kernel
theorem dX9_isKept_158 : decode cX9_isKept 158 = .ok (.lcmp, 1) := by decide +kernel
theorem dX9_isKept_159 : decode cX9_isKept 159 = .ok (.ifCond .eq 27, 3) := by decide +kernel
theorem dX9_isKept_162 : decode cX9_isKept 162 = .ok (.lload_n 0, 1) := by decide +kernel
theorem dX9_isKept_163 : decode cX9_isKept 163 = .ok (.ldc2_w 214, 3) := by decide +kernel
theorem dX9_isKept_166 : decode cX9_isKept 166 = .ok (.lcmp, 1) := by decide +kernel
theorem dX9_isKept_167 : decode cX9_isKept 167 = .ok (.ifCond .eq 19, 3) := by decide +kernel
theorem dX9_isKept_170 : decode cX9_isKept 170 = .ok (.lload_n 0, 1) := by decide +kernel
theorem dX9_isKept_171 : decode cX9_isKept 171 = .ok (.ldc2_w 216, 3) := by decide +kernel
theorem dX9_isKept_174 : decode cX9_isKept 174 = .ok (.lcmp, 1) := by decide +kernel
theorem dX9_isKept_175 : decode cX9_isKept 175 = .ok (.ifCond .eq 11, 3) := by decide +kernel
theorem dX9_isKept_178 : decode cX9_isKept 178 = .ok (.lload_n 0, 1) := by decide +kernel
theorem dX9_isKept_179 : decode cX9_isKept 179 = .ok (.ldc2_w 218, 3) := by decide +kernel
theorem dX9_isKept_182 : decode cX9_isKept 182 = .ok (.lcmp, 1) := by decide +kernel
theorem dX9_isKept_183 : decode cX9_isKept 183 = .ok (.ifCond .ne 7, 3) := by decide +kernel
theorem dX9_isKept_190 : decode cX9_isKept 190 = .ok (.iconst 0, 1) := by decide +kernel
theorem dX9_isGood_0 : decode cX9_isGood 0 = .ok (.aload_n 0, 1) := by decide +kernel
theorem dX9_isGood_1 : decode cX9_isGood 1 = .ok (.getfield 173, 3) := by decide +kernel
theorem dX9_isGood_4 : decode cX9_isGood 4 = .ok (.ifCond .ne 7, 3) := by decide +kernel
theorem dX9_isGood_11 : decode cX9_isGood 11 = .ok (.iconst 0, 1) := by decide +kernel
theorem dX9_isGood_12 : decode cX9_isGood 12 = .ok (.ireturn, 1) := by decide +kernel
theorem dX9_isGood_7 : decode cX9_isGood 7 = .ok (.iconst 1, 1) := by decide +kernel
theorem dX9_isGood_8 : decode cX9_isGood 8 = .ok (.goto 4, 3) := by decide +kernel
theorem dX9_fails_0 : decode cX9_fails 0 = .ok (.aload_n 0, 1) := by decide +kernel
theorem dX9_fails_1 : decode cX9_fails 1 = .ok (.getfield 173, 3) := by decide +kernel
theorem dX9_fails_4 : decode cX9_fails 4 = .ok (.ifCond .le 4, 3) := by decide +kernel
theorem dX9_fails_8 : decode cX9_fails 8 = .ok (.aload_n 0, 1) := by decide +kernel
theorem dX9_fails_9 : decode cX9_fails 9 = .ok (.iload_n 1, 1) := by decide +kernel
theorem dX9_fails_10 : decode cX9_fails 10 = .ok (.putfield 173, 3) := by decide +kernel
theorem dX9_fails_13 : decode cX9_fails 13 = .ok (.aload_n 0, 1) := by decide +kernel
theorem dX9_fails_14 : decode cX9_fails 14 = .ok (.iload_n 2, 1) := by decide +kernel
theorem dX9_fails_15 : decode cX9_fails 15 = .ok (.putfield 16, 3) := by decide +kernel
theorem dX9_fails_18 : decode cX9_fails 18 = .ok (.return_, 1) := by decide +kernel
theorem dX9_fails_7 : decode cX9_fails 7 = .ok (.return_, 1) := by decide +kernel
theorem dX9_misplaced_0 : decode cX9_misplaced 0 = .ok (.aload_n 0, 1) := by decide +kernel
theorem dX9_misplaced_1 : decode cX9_misplaced 1 = .ok (.aload_n 0, 1) := by decide +kernel
theorem dX9_misplaced_2 : decode cX9_misplaced 2 = .ok (.getfield 230, 3) := by decide +kernel
theorem dX9_misplaced_5 : decode cX9_misplaced 5 = .ok (.iconst 1, 1) := by decide +kernel
theorem dX9_misplaced_6 : decode cX9_misplaced 6 = .ok (.if_icmp .ne 7, 3) := by decide +kernel
theorem dX9_misplaced_13 : decode cX9_misplaced 13 = .ok (.iconst 2, 1) := by decide +kernel
theorem dX9_misplaced_14 : decode cX9_misplaced 14 = .ok (.aload_n 0, 1) := by decide +kernel
theorem dX9_misplaced_15 : decode cX9_misplaced 15 = .ok (.getfield 223, 3) := by decide +kernel
theorem dX9_misplaced_18 : decode cX9_misplaced 18 = .ok (.invokevirtual 254, 3) := by decide +kernel
theorem dX9_misplaced_21 : decode cX9_misplaced 21 = .ok (.return_, 1) := by decide +kernel
theorem dX9_misplaced_9 : decode cX9_misplaced 9 = .ok (.iconst 1, 1) := by decide +kernel
theorem dX9_misplaced_10 : decode cX9_misplaced 10 = .ok (.goto 4, 3) := by decide +kernel
theorem dX9_is_0 : decode cX9_is 0 = .ok (.aload_n 0, 1) := by decide +kernel
theorem dX9_is_1 : decode cX9_is 1 = .ok (.getfield 230, 3) := by decide +kernel
theorem dX9_is_4 : decode cX9_is 4 = .ok (.iconst 5, 1) := by decide +kernel
theorem dX9_is_5 : decode cX9_is 5 = .ok (.if_icmp .ne 19, 3) := by decide +kernel
theorem dX9_is_24 : decode cX9_is 24 = .ok (.iconst 0, 1) := by decide +kernel
theorem dX9_is_25 : decode cX9_is 25 = .ok (.ireturn, 1) := by decide +kernel
theorem dX9_is_8 : decode cX9_is 8 = .ok (.aload_n 0, 1) := by decide +kernel
theorem dX9_is_9 : decode cX9_is 9 = .ok (.aload_n 0, 1) := by decide +kernel
theorem dX9_is_10 : decode cX9_is 10 = .ok (.getfield 223, 3) := by decide +kernel
theorem dX9_is_13 : decode cX9_is 13 = .ok (.invokevirtual 226, 3) := by decide +kernel
theorem dX9_is_16 : decode cX9_is 16 = .ok (.iload_n 1, 1) := by decide +kernel
theorem dX9_is_17 : decode cX9_is 17 = .ok (.if_icmp .ne 7, 3) := by decide +kernel
theorem dX9_is_20 : decode cX9_is 20 = .ok (.iconst 1, 1) := by decide +kernel
theorem dX9_is_21 : decode cX9_is 21 = .ok (.goto 4, 3) := by decide +kernel
theorem dX9_isWord_0 : decode cX9_isWord 0 = .ok (.aload_n 0, 1) := by decide +kernel
theorem dX9_isWord_1 : decode cX9_isWord 1 = .ok (.getfield 230, 3) := by decide +kernel
theorem dX9_isWord_4 : decode cX9_isWord 4 = .ok (.iconst 3, 1) := by decide +kernel
theorem dX9_isWord_5 : decode cX9_isWord 5 = .ok (.if_icmp .ne 16, 3) := by decide +kernel
theorem dX9_isWord_21 : decode cX9_isWord 21 = .ok (.iconst 0, 1) := by decide +kernel
theorem dX9_isWord_22 : decode cX9_isWord 22 = .ok (.ireturn, 1) := by decide +kernel
theorem dX9_isWord_8 : decode cX9_isWord 8 = .ok (.aload_n 0, 1) := by decide +kernel
theorem dX9_isWord_9 : decode cX9_isWord 9 = .ok (.getfield 237, 3) := by decide +kernel
theorem dX9_isWord_12 : decode cX9_isWord 12 = .ok (.lload_n 1, 1) := by decide +kernel
theorem dX9_isWord_13 : decode cX9_isWord 13 = .ok (.lcmp, 1) := by decide +kernel
theorem dX9_isWord_14 : decode cX9_isWord 14 = .ok (.ifCond .ne 7, 3) := by decide +kernel
theorem dX9_isWord_17 : decode cX9_isWord 17 = .ok (.iconst 1, 1) := by decide +kernel
theorem dX9_isWord_18 : decode cX9_isWord 18 = .ok (.goto 4, 3) := by decide +kernel
theorem dX9_goOn_0 : decode cX9_goOn 0 = .ok (.aload_n 0, 1) := by decide +kernel
theorem dX9_goOn_1 : decode cX9_goOn 1 = .ok (.aload_n 0, 1) := by decide +kernel
theorem dX9_goOn_2 : decode cX9_goOn 2 = .ok (.getfield 220, 3) := by decide +kernel
theorem dX9_goOn_5 : decode cX9_goOn 5 = .ok (.putfield 223, 3) := by decide +kernel
theorem dX9_goOn_8 : decode cX9_goOn 8 = .ok (.aload_n 0, 1) := by decide +kernel
theorem dX9_goOn_9 : decode cX9_goOn 9 = .ok (.getfield 223, 3) := by decide +kernel
theorem dX9_goOn_12 : decode cX9_goOn 12 = .ok (.aload_n 0, 1) := by decide +kernel
theorem dX9_goOn_13 : decode cX9_goOn 13 = .ok (.getfield 170, 3) := by decide +kernel
theorem dX9_goOn_16 : decode cX9_goOn 16 = .ok (.if_icmp .ge 42, 3) := by decide +kernel
theorem dX9_goOn_58 : decode cX9_goOn 58 = .ok (.aload_n 0, 1) := by decide +kernel
theorem dX9_goOn_59 : decode cX9_goOn 59 = .ok (.aload_n 0, 1) := by decide +kernel
theorem dX9_goOn_60 : decode cX9_goOn 60 = .ok (.getfield 223, 3) := by decide +kernel
theorem dX9_goOn_63 : decode cX9_goOn 63 = .ok (.invokevirtual 226, 3) := by decide +kernel
theorem dX9_goOn_66 : decode cX9_goOn 66 = .ok (.istore_n 1, 1) := by decide +kernel
theorem dX9_goOn_67 : decode cX9_goOn 67 = .ok (.aload_n 0, 1) := by decide +kernel
theorem dX9_goOn_68 : decode cX9_goOn 68 = .ok (.aload_n 0, 1) := by decide +kernel
theorem dX9_goOn_69 : decode cX9_goOn 69 = .ok (.getfield 223, 3) := by decide +kernel
theorem dX9_goOn_72 : decode cX9_goOn 72 = .ok (.iconst 1, 1) := by decide +kernel
theorem dX9_goOn_73 : decode cX9_goOn 73 = .ok (.iadd, 1) := by decide +kernel
theorem dX9_goOn_74 : decode cX9_goOn 74 = .ok (.putfield 220, 3) := by decide +kernel
theorem dX9_goOn_77 : decode cX9_goOn 77 = .ok (.aload_n 0, 1) := by decide +kernel
theorem dX9_goOn_78 : decode cX9_goOn 78 = .ok (.getfield 223, 3) := by decide +kernel
theorem dX9_goOn_81 : decode cX9_goOn 81 = .ok (.aload_n 0, 1) := by decide +kernel
theorem dX9_goOn_82 : decode cX9_goOn 82 = .ok (.getfield 170, 3) := by decide +kernel
theorem dX9_goOn_85 : decode cX9_goOn 85 = .ok (.if_icmp .lt 27, 3) := by decide +kernel
theorem dX9_goOn_112 : decode cX9_goOn 112 = .ok (.iload_n 1, 1) := by decide +kernel
theorem dX9_goOn_113 : decode cX9_goOn 113 = .ok (.invokestatic 233, 3) := by decide +kernel
theorem dX9_goOn_116 : decode cX9_goOn 116 = .ok (.ifCond .eq 123, 3) := by decide +kernel
theorem dX9_goOn_119 : decode cX9_goOn 119 = .ok (.aload_n 0, 1) := by decide +kernel
theorem dX9_goOn_120 : decode cX9_goOn 120 = .ok (.aload_n 0, 1) := by decide +kernel
theorem dX9_goOn_121 : decode cX9_goOn 121 = .ok (.getfield 220, 3) := by decide +kernel
theorem dX9_goOn_124 : decode cX9_goOn 124 = .ok (.invokevirtual 226, 3) := by decide +kernel
theorem dX9_goOn_127 : decode cX9_goOn 127 = .ok (.invokestatic 233, 3) := by decide +kernel
theorem dX9_goOn_130 : decode cX9_goOn 130 = .ok (.ifCond .eq 16, 3) := by decide +kernel
theorem dX9_goOn_133 : decode cX9_goOn 133 = .ok (.aload_n 0, 1) := by decide +kernel
theorem dX9_goOn_134 : decode cX9_goOn 134 = .ok (.dup, 1) := by decide +kernel
theorem dX9_goOn_135 : decode cX9_goOn 135 = .ok (.getfield 220, 3) := by decide +kernel
theorem dX9_goOn_138 : decode cX9_goOn 138 = .ok (.iconst 1, 1) := by decide +kernel
theorem dX9_goOn_139 : decode cX9_goOn 139 = .ok (.iadd, 1) := by decide +kernel
theorem dX9_goOn_140 : decode cX9_goOn 140 = .ok (.putfield 220, 3) := by decide +kernel
theorem dX9_goOn_143 : decode cX9_goOn 143 = .ok (.goto (-24), 3) := by decide +kernel
theorem dX9_goOn_146 : decode cX9_goOn 146 = .ok (.aload_n 0, 1) := by decide +kernel
theorem dX9_goOn_147 : decode cX9_goOn 147 = .ok (.lconst 0, 1) := by decide +kernel
theorem dX9_goOn_148 : decode cX9_goOn 148 = .ok (.putfield 237, 3) := by decide +kernel
theorem dX9_goOn_151 : decode cX9_goOn 151 = .ok (.aload_n 0, 1) := by decide +kernel
theorem dX9_goOn_152 : decode cX9_goOn 152 = .ok (.getfield 223, 3) := by decide +kernel
theorem dX9_goOn_155 : decode cX9_goOn 155 = .ok (.istore_n 2, 1) := by decide +kernel
theorem dX9_goOn_156 : decode cX9_goOn 156 = .ok (.iload_n 2, 1) := by decide +kernel
theorem dX9_goOn_157 : decode cX9_goOn 157 = .ok (.aload_n 0, 1) := by decide +kernel
theorem dX9_goOn_158 : decode cX9_goOn 158 = .ok (.getfield 220, 3) := by decide +kernel
theorem dX9_goOn_161 : decode cX9_goOn 161 = .ok (.if_icmp .ge 38, 3) := by decide +kernel
theorem dX9_goOn_199 : decode cX9_goOn 199 = .ok (.aload_n 0, 1) := by decide +kernel
theorem dX9_goOn_200 : decode cX9_goOn 200 = .ok (.aload_n 0, 1) := by decide +kernel
theorem dX9_goOn_201 : decode cX9_goOn 201 = .ok (.getfield 220, 3) := by decide +kernel
theorem dX9_goOn_204 : decode cX9_goOn 204 = .ok (.aload_n 0, 1) := by decide +kernel
theorem dX9_goOn_205 : decode cX9_goOn 205 = .ok (.getfield 223, 3) := by decide +kernel
theorem dX9_goOn_208 : decode cX9_goOn 208 = .ok (.isub, 1) := by decide +kernel
theorem dX9_goOn_209 : decode cX9_goOn 209 = .ok (.bipush 8, 2) := by decide +kernel
theorem dX9_goOn_211 : decode cX9_goOn 211 = .ok (.if_icmp .le 7, 3) := by decide +kernel
theorem dX9_goOn_218 : decode cX9_goOn 218 = .ok (.aload_n 0, 1) := by decide +kernel
theorem dX9_goOn_219 : decode cX9_goOn 219 = .ok (.getfield 237, 3) := by decide +kernel
theorem dX9_goOn_222 : decode cX9_goOn 222 = .ok (.invokestatic 241, 3) := by decide +kernel
theorem dX9_goOn_225 : decode cX9_goOn 225 = .ok (.ifCond .eq 7, 3) := by decide +kernel
theorem dX9_goOn_228 : decode cX9_goOn 228 = .ok (.iconst 3, 1) := by decide +kernel
theorem dX9_goOn_229 : decode cX9_goOn 229 = .ok (.goto 4, 3) := by decide +kernel
theorem dX9_goOn_233 : decode cX9_goOn 233 = .ok (.putfield 230, 3) := by decide +kernel
theorem dX9_goOn_236 : decode cX9_goOn 236 = .ok (.goto 141, 3) := by decide +kernel
theorem dX9_goOn_377 : decode cX9_goOn 377 = .ok (.return_, 1) := by decide +kernel
theorem dX9_goOn_232 : decode cX9_goOn 232 = .ok (.iconst 2, 1) := by decide +kernel
theorem dX9_goOn_214 : decode cX9_goOn 214 = .ok (.iconst 1, 1) := by decide +kernel
theorem dX9_goOn_215 : decode cX9_goOn 215 = .ok (.goto 18, 3) := by decide +kernel
theorem dX9_goOn_164 : decode cX9_goOn 164 = .ok (.iload_n 2, 1) := by decide +kernel
theorem dX9_goOn_165 : decode cX9_goOn 165 = .ok (.aload_n 0, 1) := by decide +kernel
theorem dX9_goOn_166 : decode cX9_goOn 166 = .ok (.getfield 223, 3) := by decide +kernel
theorem dX9_goOn_169 : decode cX9_goOn 169 = .ok (.bipush 8, 2) := by decide +kernel
theorem dX9_goOn_171 : decode cX9_goOn 171 = .ok (.iadd, 1) := by decide +kernel
theorem dX9_goOn_172 : decode cX9_goOn 172 = .ok (.if_icmp .ge 27, 3) := by decide +kernel
theorem dX9_goOn_175 : decode cX9_goOn 175 = .ok (.aload_n 0, 1) := by decide +kernel
theorem dX9_goOn_176 : decode cX9_goOn 176 = .ok (.aload_n 0, 1) := by decide +kernel
theorem dX9_goOn_177 : decode cX9_goOn 177 = .ok (.getfield 237, 3) := by decide +kernel
theorem dX9_goOn_180 : decode cX9_goOn 180 = .ok (.bipush 8, 2) := by decide +kernel
theorem dX9_goOn_182 : decode cX9_goOn 182 = .ok (.lshl, 1) := by decide +kernel
theorem dX9_goOn_183 : decode cX9_goOn 183 = .ok (.aload_n 0, 1) := by decide +kernel
theorem dX9_goOn_184 : decode cX9_goOn 184 = .ok (.iload_n 2, 1) := by decide +kernel
theorem dX9_goOn_185 : decode cX9_goOn 185 = .ok (.invokevirtual 226, 3) := by decide +kernel
theorem dX9_goOn_188 : decode cX9_goOn 188 = .ok (.i2l, 1) := by decide +kernel
theorem dX9_goOn_189 : decode cX9_goOn 189 = .ok (.lor, 1) := by decide +kernel
theorem dX9_goOn_190 : decode cX9_goOn 190 = .ok (.putfield 237, 3) := by decide +kernel
theorem dX9_goOn_193 : decode cX9_goOn 193 = .ok (.iinc 2 1, 3) := by decide +kernel
theorem dX9_goOn_196 : decode cX9_goOn 196 = .ok (.goto (-40), 3) := by decide +kernel
theorem dX9_goOn_239 : decode cX9_goOn 239 = .ok (.iload_n 1, 1) := by decide +kernel
theorem dX9_goOn_240 : decode cX9_goOn 240 = .ok (.invokestatic 245, 3) := by decide +kernel
theorem dX9_goOn_243 : decode cX9_goOn 243 = .ok (.ifCond .eq 118, 3) := by decide +kernel
theorem dX9_goOn_246 : decode cX9_goOn 246 = .ok (.aload_n 0, 1) := by decide +kernel
theorem dX9_goOn_247 : decode cX9_goOn 247 = .ok (.iconst 0, 1) := by decide +kernel
theorem dX9_goOn_248 : decode cX9_goOn 248 = .ok (.putfield 248, 3) := by decide +kernel
theorem dX9_goOn_251 : decode cX9_goOn 251 = .ok (.aload_n 0, 1) := by decide +kernel
theorem dX9_goOn_252 : decode cX9_goOn 252 = .ok (.aload_n 0, 1) := by decide +kernel
theorem dX9_goOn_253 : decode cX9_goOn 253 = .ok (.getfield 223, 3) := by decide +kernel
theorem dX9_goOn_256 : decode cX9_goOn 256 = .ok (.putfield 220, 3) := by decide +kernel
theorem dX9_goOn_259 : decode cX9_goOn 259 = .ok (.aload_n 0, 1) := by decide +kernel
theorem dX9_goOn_260 : decode cX9_goOn 260 = .ok (.aload_n 0, 1) := by decide +kernel
theorem dX9_goOn_261 : decode cX9_goOn 261 = .ok (.getfield 220, 3) := by decide +kernel
theorem dX9_goOn_264 : decode cX9_goOn 264 = .ok (.invokevirtual 226, 3) := by decide +kernel
theorem dX9_goOn_267 : decode cX9_goOn 267 = .ok (.invokestatic 245, 3) := by decide +kernel
theorem dX9_goOn_270 : decode cX9_goOn 270 = .ok (.ifCond .eq 52, 3) := by decide +kernel
theorem dX9_goOn_273 : decode cX9_goOn 273 = .ok (.aload_n 0, 1) := by decide +kernel
theorem dX9_goOn_274 : decode cX9_goOn 274 = .ok (.getfield 220, 3) := by decide +kernel
theorem dX9_goOn_277 : decode cX9_goOn 277 = .ok (.aload_n 0, 1) := by decide +kernel
theorem dX9_goOn_278 : decode cX9_goOn 278 = .ok (.getfield 223, 3) := by decide +kernel
theorem dX9_goOn_281 : decode cX9_goOn 281 = .ok (.isub, 1) := by decide +kernel
theorem dX9_goOn_282 : decode cX9_goOn 282 = .ok (.iconst 4, 1) := by decide +kernel
theorem dX9_goOn_283 : decode cX9_goOn 283 = .ok (.if_icmp .ge 26, 3) := by decide +kernel
theorem dX9_goOn_309 : decode cX9_goOn 309 = .ok (.aload_n 0, 1) := by decide +kernel
theorem dX9_goOn_310 : decode cX9_goOn 310 = .ok (.dup, 1) := by decide +kernel
theorem dX9_goOn_311 : decode cX9_goOn 311 = .ok (.getfield 220, 3) := by decide +kernel
theorem dX9_goOn_314 : decode cX9_goOn 314 = .ok (.iconst 1, 1) := by decide +kernel
theorem dX9_goOn_315 : decode cX9_goOn 315 = .ok (.iadd, 1) := by decide +kernel
theorem dX9_goOn_316 : decode cX9_goOn 316 = .ok (.putfield 220, 3) := by decide +kernel
theorem dX9_goOn_319 : decode cX9_goOn 319 = .ok (.goto (-60), 3) := by decide +kernel
theorem dX9_goOn_286 : decode cX9_goOn 286 = .ok (.aload_n 0, 1) := by decide +kernel
theorem dX9_goOn_287 : decode cX9_goOn 287 = .ok (.bipush 10, 2) := by decide +kernel
theorem dX9_goOn_289 : decode cX9_goOn 289 = .ok (.aload_n 0, 1) := by decide +kernel
theorem dX9_goOn_290 : decode cX9_goOn 290 = .ok (.getfield 248, 3) := by decide +kernel
theorem dX9_goOn_293 : decode cX9_goOn 293 = .ok (.imul, 1) := by decide +kernel
theorem dX9_goOn_294 : decode cX9_goOn 294 = .ok (.aload_n 0, 1) := by decide +kernel
theorem dX9_goOn_295 : decode cX9_goOn 295 = .ok (.aload_n 0, 1) := by decide +kernel
theorem dX9_goOn_296 : decode cX9_goOn 296 = .ok (.getfield 220, 3) := by decide +kernel
theorem dX9_goOn_299 : decode cX9_goOn 299 = .ok (.invokevirtual 226, 3) := by decide +kernel
theorem dX9_goOn_302 : decode cX9_goOn 302 = .ok (.iadd, 1) := by decide +kernel
theorem dX9_goOn_303 : decode cX9_goOn 303 = .ok (.bipush 48, 2) := by decide +kernel
theorem dX9_goOn_305 : decode cX9_goOn 305 = .ok (.isub, 1) := by decide +kernel
theorem dX9_goOn_306 : decode cX9_goOn 306 = .ok (.putfield 248, 3) := by decide +kernel
theorem dX9_goOn_322 : decode cX9_goOn 322 = .ok (.aload_n 0, 1) := by decide +kernel
theorem dX9_goOn_323 : decode cX9_goOn 323 = .ok (.aload_n 0, 1) := by decide +kernel
theorem dX9_goOn_324 : decode cX9_goOn 324 = .ok (.getfield 220, 3) := by decide +kernel
theorem dX9_goOn_327 : decode cX9_goOn 327 = .ok (.aload_n 0, 1) := by decide +kernel
theorem dX9_goOn_328 : decode cX9_goOn 328 = .ok (.getfield 223, 3) := by decide +kernel
theorem dX9_goOn_331 : decode cX9_goOn 331 = .ok (.isub, 1) := by decide +kernel
theorem dX9_goOn_332 : decode cX9_goOn 332 = .ok (.iconst 4, 1) := by decide +kernel
theorem dX9_goOn_333 : decode cX9_goOn 333 = .ok (.if_icmp .gt 17, 3) := by decide +kernel
theorem dX9_goOn_350 : decode cX9_goOn 350 = .ok (.iconst 1, 1) := by decide +kernel
theorem dX9_goOn_351 : decode cX9_goOn 351 = .ok (.goto 4, 3) := by decide +kernel
theorem dX9_goOn_355 : decode cX9_goOn 355 = .ok (.putfield 230, 3) := by decide +kernel
theorem dX9_goOn_358 : decode cX9_goOn 358 = .ok (.goto 19, 3) := by decide +kernel
theorem dX9_goOn_336 : decode cX9_goOn 336 = .ok (.aload_n 0, 1) := by decide +kernel
theorem dX9_goOn_337 : decode cX9_goOn 337 = .ok (.aload_n 0, 1) := by decide +kernel
theorem dX9_goOn_338 : decode cX9_goOn 338 = .ok (.getfield 220, 3) := by decide +kernel
theorem dX9_goOn_341 : decode cX9_goOn 341 = .ok (.invokevirtual 226, 3) := by decide +kernel
theorem dX9_goOn_344 : decode cX9_goOn 344 = .ok (.invokestatic 233, 3) := by decide +kernel
theorem dX9_goOn_347 : decode cX9_goOn 347 = .ok (.ifCond .eq 7, 3) := by decide +kernel
theorem dX9_goOn_354 : decode cX9_goOn 354 = .ok (.iconst 4, 1) := by decide +kernel
theorem dX9_goOn_361 : decode cX9_goOn 361 = .ok (.aload_n 0, 1) := by decide +kernel
theorem dX9_goOn_362 : decode cX9_goOn 362 = .ok (.iload_n 1, 1) := by decide +kernel
theorem dX9_goOn_363 : decode cX9_goOn 363 = .ok (.invokestatic 251, 3) := by decide +kernel
theorem dX9_goOn_366 : decode cX9_goOn 366 = .ok (.ifCond .eq 7, 3) := by decide +kernel
theorem dX9_goOn_369 : decode cX9_goOn 369 = .ok (.iconst 5, 1) := by decide +kernel
theorem dX9_goOn_370 : decode cX9_goOn 370 = .ok (.goto 4, 3) := by decide +kernel
theorem dX9_goOn_374 : decode cX9_goOn 374 = .ok (.putfield 230, 3) := by decide +kernel
theorem dX9_goOn_373 : decode cX9_goOn 373 = .ok (.iconst 1, 1) := by decide +kernel
theorem dX9_goOn_88 : decode cX9_goOn 88 = .ok (.aload_n 0, 1) := by decide +kernel
theorem dX9_goOn_89 : decode cX9_goOn 89 = .ok (.iconst 0, 1) := by decide +kernel
theorem dX9_goOn_90 : decode cX9_goOn 90 = .ok (.putfield 230, 3) := by decide +kernel
theorem dX9_goOn_93 : decode cX9_goOn 93 = .ok (.aload_n 0, 1) := by decide +kernel
theorem dX9_goOn_94 : decode cX9_goOn 94 = .ok (.aload_n 0, 1) := by decide +kernel
theorem dX9_goOn_95 : decode cX9_goOn 95 = .ok (.getfield 170, 3) := by decide +kernel
theorem dX9_goOn_98 : decode cX9_goOn 98 = .ok (.putfield 223, 3) := by decide +kernel
theorem dX9_goOn_101 : decode cX9_goOn 101 = .ok (.aload_n 0, 1) := by decide +kernel
theorem dX9_goOn_102 : decode cX9_goOn 102 = .ok (.aload_n 0, 1) := by decide +kernel
theorem dX9_goOn_103 : decode cX9_goOn 103 = .ok (.getfield 170, 3) := by decide +kernel
theorem dX9_goOn_106 : decode cX9_goOn 106 = .ok (.putfield 220, 3) := by decide +kernel
theorem dX9_goOn_109 : decode cX9_goOn 109 = .ok (.goto 268, 3) := by decide +kernel
theorem dX9_goOn_19 : decode cX9_goOn 19 = .ok (.aload_n 0, 1) := by decide +kernel
theorem dX9_goOn_20 : decode cX9_goOn 20 = .ok (.aload_n 0, 1) := by decide +kernel
theorem dX9_goOn_21 : decode cX9_goOn 21 = .ok (.getfield 223, 3) := by decide +kernel
theorem dX9_goOn_24 : decode cX9_goOn 24 = .ok (.invokevirtual 226, 3) := by decide +kernel
theorem dX9_goOn_27 : decode cX9_goOn 27 = .ok (.bipush 32, 2) := by decide +kernel
theorem dX9_goOn_29 : decode cX9_goOn 29 = .ok (.if_icmp .eq 16, 3) := by decide +kernel
theorem dX9_goOn_45 : decode cX9_goOn 45 = .ok (.aload_n 0, 1) := by decide +kernel
theorem dX9_goOn_46 : decode cX9_goOn 46 = .ok (.dup, 1) := by decide +kernel
theorem dX9_goOn_47 : decode cX9_goOn 47 = .ok (.getfield 223, 3) := by decide +kernel
theorem dX9_goOn_50 : decode cX9_goOn 50 = .ok (.iconst 1, 1) := by decide +kernel
theorem dX9_goOn_51 : decode cX9_goOn 51 = .ok (.iadd, 1) := by decide +kernel
theorem dX9_goOn_52 : decode cX9_goOn 52 = .ok (.putfield 223, 3) := by decide +kernel
theorem dX9_goOn_55 : decode cX9_goOn 55 = .ok (.goto (-47), 3) := by decide +kernel
theorem dX9_goOn_32 : decode cX9_goOn 32 = .ok (.aload_n 0, 1) := by decide +kernel
theorem dX9_goOn_33 : decode cX9_goOn 33 = .ok (.aload_n 0, 1) := by decide +kernel
theorem dX9_goOn_34 : decode cX9_goOn 34 = .ok (.getfield 223, 3) := by decide +kernel
theorem dX9_goOn_37 : decode cX9_goOn 37 = .ok (.invokevirtual 226, 3) := by decide +kernel
theorem dX9_goOn_40 : decode cX9_goOn 40 = .ok (.bipush 10, 2) := by decide +kernel
theorem dX9_goOn_42 : decode cX9_goOn 42 = .ok (.if_icmp .ne 16, 3) := by decide +kernel
theorem dX9_must_0 : decode cX9_must 0 = .ok (.aload_n 0, 1) := by decide +kernel
theorem dX9_must_1 : decode cX9_must 1 = .ok (.invokevirtual 258, 3) := by decide +kernel
theorem dX9_must_4 : decode cX9_must 4 = .ok (.ifCond .ne 4, 3) := by decide +kernel
theorem dX9_must_8 : decode cX9_must 8 = .ok (.iload_n 1, 1) := by decide +kernel
theorem dX9_must_9 : decode cX9_must 9 = .ok (.ifCond .eq 10, 3) := by decide +kernel
theorem dX9_must_19 : decode cX9_must 19 = .ok (.aload_n 0, 1) := by decide +kernel
theorem dX9_must_20 : decode cX9_must 20 = .ok (.invokevirtual 265, 3) := by decide +kernel
theorem dX9_must_23 : decode cX9_must 23 = .ok (.return_, 1) := by decide +kernel
theorem dX9_must_12 : decode cX9_must 12 = .ok (.aload_n 0, 1) := by decide +kernel
theorem dX9_must_13 : decode cX9_must 13 = .ok (.invokevirtual 262, 3) := by decide +kernel
theorem dX9_must_16 : decode cX9_must 16 = .ok (.goto 7, 3) := by decide +kernel
theorem dX9_must_7 : decode cX9_must 7 = .ok (.return_, 1) := by decide +kernel
theorem dX9_numeral_0 : decode cX9_numeral 0 = .ok (.aload_n 0, 1) := by decide +kernel
theorem dX9_numeral_1 : decode cX9_numeral 1 = .ok (.invokevirtual 258, 3) := by decide +kernel
theorem dX9_numeral_4 : decode cX9_numeral 4 = .ok (.ifCond .ne 5, 3) := by decide +kernel
theorem dX9_numeral_9 : decode cX9_numeral 9 = .ok (.aload_n 0, 1) := by decide +kernel
theorem dX9_numeral_10 : decode cX9_numeral 10 = .ok (.getfield 230, 3) := by decide +kernel
theorem dX9_numeral_13 : decode cX9_numeral 13 = .ok (.iconst 4, 1) := by decide +kernel
theorem dX9_numeral_14 : decode cX9_numeral 14 = .ok (.if_icmp .eq 7, 3) := by decide +kernel
theorem dX9_numeral_21 : decode cX9_numeral 21 = .ok (.aload_n 0, 1) := by decide +kernel
theorem dX9_numeral_22 : decode cX9_numeral 22 = .ok (.invokevirtual 258, 3) := by decide +kernel
theorem dX9_numeral_25 : decode cX9_numeral 25 = .ok (.ifCond .eq 28, 3) := by decide +kernel
theorem dX9_numeral_28 : decode cX9_numeral 28 = .ok (.aload_n 0, 1) := by decide +kernel
theorem dX9_numeral_29 : decode cX9_numeral 29 = .ok (.getfield 248, 3) := by decide +kernel
theorem dX9_numeral_32 : decode cX9_numeral 32 = .ok (.iload_n 1, 1) := by decide +kernel
theorem dX9_numeral_33 : decode cX9_numeral 33 = .ok (.if_icmp .lt 11, 3) := by decide +kernel
theorem dX9_numeral_44 : decode cX9_numeral 44 = .ok (.aload_n 0, 1) := by decide +kernel
theorem dX9_numeral_45 : decode cX9_numeral 45 = .ok (.iconst 4, 1) := by decide +kernel
theorem dX9_numeral_46 : decode cX9_numeral 46 = .ok (.aload_n 0, 1) := by decide +kernel
theorem dX9_numeral_47 : decode cX9_numeral 47 = .ok (.getfield 223, 3) := by decide +kernel
theorem dX9_numeral_50 : decode cX9_numeral 50 = .ok (.invokevirtual 254, 3) := by decide +kernel
theorem dX9_numeral_53 : decode cX9_numeral 53 = .ok (.aload_n 0, 1) := by decide +kernel
theorem dX9_numeral_54 : decode cX9_numeral 54 = .ok (.getfield 248, 3) := by decide +kernel
theorem dX9_numeral_57 : decode cX9_numeral 57 = .ok (.istore_n 3, 1) := by decide +kernel
theorem dX9_numeral_58 : decode cX9_numeral 58 = .ok (.aload_n 0, 1) := by decide +kernel
theorem dX9_numeral_59 : decode cX9_numeral 59 = .ok (.invokevirtual 258, 3) := by decide +kernel
theorem dX9_numeral_62 : decode cX9_numeral 62 = .ok (.ifCond .eq 7, 3) := by decide +kernel
theorem dX9_numeral_69 : decode cX9_numeral 69 = .ok (.aload_n 0, 1) := by decide +kernel
theorem dX9_numeral_70 : decode cX9_numeral 70 = .ok (.invokevirtual 258, 3) := by decide +kernel
theorem dX9_numeral_73 : decode cX9_numeral 73 = .ok (.ifCond .eq 7, 3) := by decide +kernel
theorem dX9_numeral_80 : decode cX9_numeral 80 = .ok (.iload_n 1, 1) := by decide +kernel
theorem dX9_numeral_81 : decode cX9_numeral 81 = .ok (.ireturn, 1) := by decide +kernel
theorem dX9_numeral_36 : decode cX9_numeral 36 = .ok (.aload_n 0, 1) := by decide +kernel
theorem dX9_numeral_37 : decode cX9_numeral 37 = .ok (.getfield 248, 3) := by decide +kernel
theorem dX9_numeral_40 : decode cX9_numeral 40 = .ok (.iload_n 2, 1) := by decide +kernel
theorem dX9_numeral_41 : decode cX9_numeral 41 = .ok (.if_icmp .le 12, 3) := by decide +kernel
theorem dX9_numeral_65 : decode cX9_numeral 65 = .ok (.aload_n 0, 1) := by decide +kernel
theorem dX9_numeral_66 : decode cX9_numeral 66 = .ok (.invokevirtual 262, 3) := by decide +kernel
theorem dX9_numeral_76 : decode cX9_numeral 76 = .ok (.iload_n 3, 1) := by decide +kernel
theorem dX9_numeral_77 : decode cX9_numeral 77 = .ok (.goto 4, 3) := by decide +kernel
theorem dX9_numeral_17 : decode cX9_numeral 17 = .ok (.aload_n 0, 1) := by decide +kernel
theorem dX9_numeral_18 : decode cX9_numeral 18 = .ok (.invokevirtual 265, 3) := by decide +kernel
theorem dX9_numeral_7 : decode cX9_numeral 7 = .ok (.iload_n 1, 1) := by decide +kernel
theorem dX9_numeral_8 : decode cX9_numeral 8 = .ok (.ireturn, 1) := by decide +kernel
theorem dX9_after_0 : decode cX9_after 0 = .ok (.aload_n 0, 1) := by decide +kernel
theorem dX9_after_1 : decode cX9_after 1 = .ok (.aload_n 0, 1) := by decide +kernel
theorem dX9_after_2 : decode cX9_after 2 = .ok (.lload_n 1, 1) := by decide +kernel
theorem dX9_after_3 : decode cX9_after 3 = .ok (.invokevirtual 268, 3) := by decide +kernel
theorem dX9_after_6 : decode cX9_after 6 = .ok (.invokevirtual 271, 3) := by decide +kernel
theorem dX9_after_9 : decode cX9_after 9 = .ok (.aload_n 0, 1) := by decide +kernel
theorem dX9_after_10 : decode cX9_after 10 = .ok (.iload_n 3, 1) := by decide +kernel
theorem dX9_after_11 : decode cX9_after 11 = .ok (.iload 4, 2) := by decide +kernel
theorem dX9_after_13 : decode cX9_after 13 = .ok (.invokevirtual 275, 3) := by decide +kernel
theorem dX9_after_16 : decode cX9_after 16 = .ok (.ireturn, 1) := by decide +kernel
theorem dX9_fresh_0 : decode cX9_fresh 0 = .ok (.aload_n 0, 1) := by decide +kernel
theorem dX9_fresh_1 : decode cX9_fresh 1 = .ok (.invokevirtual 258, 3) := by decide +kernel
theorem dX9_fresh_4 : decode cX9_fresh 4 = .ok (.ifCond .ne 5, 3) := by decide +kernel
theorem dX9_fresh_9 : decode cX9_fresh 9 = .ok (.aload_n 0, 1) := by decide +kernel
theorem dX9_fresh_10 : decode cX9_fresh 10 = .ok (.getfield 230, 3) := by decide +kernel
theorem dX9_fresh_13 : decode cX9_fresh 13 = .ok (.iconst 2, 1) := by decide +kernel
theorem dX9_fresh_14 : decode cX9_fresh 14 = .ok (.if_icmp .eq 7, 3) := by decide +kernel
theorem dX9_fresh_21 : decode cX9_fresh 21 = .ok (.iconst 0, 1) := by decide +kernel
theorem dX9_fresh_22 : decode cX9_fresh 22 = .ok (.istore 4, 2) := by decide +kernel
theorem dX9_fresh_24 : decode cX9_fresh 24 = .ok (.iload 4, 2) := by decide +kernel
theorem dX9_fresh_26 : decode cX9_fresh 26 = .ok (.iload_n 3, 1) := by decide +kernel
theorem dX9_fresh_27 : decode cX9_fresh 27 = .ok (.if_icmp .ge 39, 3) := by decide +kernel
theorem dX9_fresh_66 : decode cX9_fresh 66 = .ok (.aload_n 0, 1) := by decide +kernel
theorem dX9_fresh_67 : decode cX9_fresh 67 = .ok (.getfield 237, 3) := by decide +kernel
theorem dX9_fresh_70 : decode cX9_fresh 70 = .ok (.lstore 4, 2) := by decide +kernel
theorem dX9_fresh_72 : decode cX9_fresh 72 = .ok (.aload_n 0, 1) := by decide +kernel
theorem dX9_fresh_73 : decode cX9_fresh 73 = .ok (.invokevirtual 258, 3) := by decide +kernel
theorem dX9_fresh_76 : decode cX9_fresh 76 = .ok (.ifCond .eq 7, 3) := by decide +kernel
theorem dX9_fresh_79 : decode cX9_fresh 79 = .ok (.aload_n 0, 1) := by decide +kernel
theorem dX9_fresh_80 : decode cX9_fresh 80 = .ok (.invokevirtual 262, 3) := by decide +kernel
theorem dX9_fresh_83 : decode cX9_fresh 83 = .ok (.lload 4, 2) := by decide +kernel
theorem dX9_fresh_85 : decode cX9_fresh 85 = .ok (.lreturn, 1) := by decide +kernel
theorem dX9_fresh_30 : decode cX9_fresh 30 = .ok (.aload_n 0, 1) := by decide +kernel
theorem dX9_fresh_31 : decode cX9_fresh 31 = .ok (.invokevirtual 258, 3) := by decide +kernel
theorem dX9_fresh_34 : decode cX9_fresh 34 = .ok (.ifCond .eq 32, 3) := by decide +kernel
theorem dX9_fresh_37 : decode cX9_fresh 37 = .ok (.aload_n 1, 1) := by decide +kernel
theorem dX9_fresh_38 : decode cX9_fresh 38 = .ok (.iload_n 2, 1) := by decide +kernel
theorem dX9_fresh_39 : decode cX9_fresh 39 = .ok (.iload 4, 2) := by decide +kernel
theorem dX9_fresh_41 : decode cX9_fresh 41 = .ok (.iadd, 1) := by decide +kernel
theorem dX9_fresh_42 : decode cX9_fresh 42 = .ok (.laload, 1) := by decide +kernel
theorem dX9_fresh_43 : decode cX9_fresh 43 = .ok (.aload_n 0, 1) := by decide +kernel
theorem dX9_fresh_44 : decode cX9_fresh 44 = .ok (.getfield 237, 3) := by decide +kernel
theorem dX9_fresh_47 : decode cX9_fresh 47 = .ok (.lcmp, 1) := by decide +kernel
theorem dX9_fresh_48 : decode cX9_fresh 48 = .ok (.ifCond .ne 12, 3) := by decide +kernel
theorem dX9_fresh_60 : decode cX9_fresh 60 = .ok (.iinc 4 1, 3) := by decide +kernel
theorem dX9_fresh_63 : decode cX9_fresh 63 = .ok (.goto (-39), 3) := by decide +kernel
theorem dX9_fresh_51 : decode cX9_fresh 51 = .ok (.aload_n 0, 1) := by decide +kernel
theorem dX9_fresh_52 : decode cX9_fresh 52 = .ok (.iconst 3, 1) := by decide +kernel
theorem dX9_fresh_53 : decode cX9_fresh 53 = .ok (.aload_n 0, 1) := by decide +kernel
theorem dX9_fresh_54 : decode cX9_fresh 54 = .ok (.getfield 223, 3) := by decide +kernel
theorem dX9_fresh_57 : decode cX9_fresh 57 = .ok (.invokevirtual 254, 3) := by decide +kernel
theorem dX9_fresh_17 : decode cX9_fresh 17 = .ok (.aload_n 0, 1) := by decide +kernel
theorem dX9_fresh_18 : decode cX9_fresh 18 = .ok (.invokevirtual 265, 3) := by decide +kernel
theorem dX9_fresh_7 : decode cX9_fresh 7 = .ok (.lconst 0, 1) := by decide +kernel
theorem dX9_fresh_8 : decode cX9_fresh 8 = .ok (.lreturn, 1) := by decide +kernel
theorem dX9_isSide_0 : decode cX9_isSide 0 = .ok (.aload_n 0, 1) := by decide +kernel
theorem dX9_isSide_1 : decode cX9_isSide 1 = .ok (.ldc2_w 178, 3) := by decide +kernel
theorem dX9_isSide_4 : decode cX9_isSide 4 = .ok (.invokevirtual 268, 3) := by decide +kernel
theorem dX9_isSide_7 : decode cX9_isSide 7 = .ok (.ifCond .ne 13, 3) := by decide +kernel
theorem dX9_isSide_20 : decode cX9_isSide 20 = .ok (.iconst 1, 1) := by decide +kernel
theorem dX9_isSide_21 : decode cX9_isSide 21 = .ok (.goto 4, 3) := by decide +kernel
theorem dX9_isSide_25 : decode cX9_isSide 25 = .ok (.ireturn, 1) := by decide +kernel
theorem dX9_isSide_10 : decode cX9_isSide 10 = .ok (.aload_n 0, 1) := by decide +kernel
theorem dX9_isSide_11 : decode cX9_isSide 11 = .ok (.ldc2_w 180, 3) := by decide +kernel
theorem dX9_isSide_14 : decode cX9_isSide 14 = .ok (.invokevirtual 268, 3) := by decide +kernel
theorem dX9_isSide_17 : decode cX9_isSide 17 = .ok (.ifCond .eq 7, 3) := by decide +kernel
theorem dX9_isSide_24 : decode cX9_isSide 24 = .ok (.iconst 0, 1) := by decide +kernel
