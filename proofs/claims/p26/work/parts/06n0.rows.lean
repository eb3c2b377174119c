theorem dX9_isIn_0 : decode cX9_isIn 0 = .ok (.iload_n 0, 1) := by decide +kernel
theorem dX9_isIn_1 : decode cX9_isIn 1 = .ok (.iload_n 1, 1) := by decide +kernel
theorem dX9_isIn_2 : decode cX9_isIn 2 = .ok (.if_icmp .lt 12, 3) := by decide +kernel
theorem dX9_isIn_14 : decode cX9_isIn 14 = .ok (.iconst 0, 1) := by decide +kernel
theorem dX9_isIn_15 : decode cX9_isIn 15 = .ok (.ireturn, 1) := by decide +kernel
theorem dX9_isIn_5 : decode cX9_isIn 5 = .ok (.iload_n 0, 1) := by decide +kernel
theorem dX9_isIn_6 : decode cX9_isIn 6 = .ok (.iload_n 2, 1) := by decide +kernel
theorem dX9_isIn_7 : decode cX9_isIn 7 = .ok (.if_icmp .gt 7, 3) := by decide +kernel
theorem dX9_isIn_10 : decode cX9_isIn 10 = .ok (.iconst 1, 1) := by decide +kernel
theorem dX9_isIn_11 : decode cX9_isIn 11 = .ok (.goto 4, 3) := by decide +kernel
theorem dX9_isPart_0 : decode cX9_isPart 0 = .ok (.iload_n 0, 1) := by decide +kernel
theorem dX9_isPart_1 : decode cX9_isPart 1 = .ok (.iconst 0, 1) := by decide +kernel
theorem dX9_isPart_2 : decode cX9_isPart 2 = .ok (.iconst 1, 1) := by decide +kernel
theorem dX9_isPart_3 : decode cX9_isPart 3 = .ok (.invokestatic 389, 3) := by decide +kernel
theorem dX9_isPart_6 : decode cX9_isPart 6 = .ok (.ireturn, 1) := by decide +kernel
theorem dX9_isLetter_0 : decode cX9_isLetter 0 = .ok (.iload_n 0, 1) := by decide +kernel
theorem dX9_isLetter_1 : decode cX9_isLetter 1 = .ok (.bipush 97, 2) := by decide +kernel
theorem dX9_isLetter_3 : decode cX9_isLetter 3 = .ok (.if_icmp .lt 13, 3) := by decide +kernel
theorem dX9_isLetter_16 : decode cX9_isLetter 16 = .ok (.iconst 0, 1) := by decide +kernel
theorem dX9_isLetter_17 : decode cX9_isLetter 17 = .ok (.ireturn, 1) := by decide +kernel
theorem dX9_isLetter_6 : decode cX9_isLetter 6 = .ok (.iload_n 0, 1) := by decide +kernel
theorem dX9_isLetter_7 : decode cX9_isLetter 7 = .ok (.bipush 122, 2) := by decide +kernel
theorem dX9_isLetter_9 : decode cX9_isLetter 9 = .ok (.if_icmp .gt 7, 3) := by decide +kernel
theorem dX9_isLetter_12 : decode cX9_isLetter 12 = .ok (.iconst 1, 1) := by decide +kernel
theorem dX9_isLetter_13 : decode cX9_isLetter 13 = .ok (.goto 4, 3) := by decide +kernel
theorem dX9_isKnot_0 : decode cX9_isKnot 0 = .ok (.iload_n 1, 1) := by decide +kernel
theorem dX9_isKnot_1 : decode cX9_isKnot 1 = .ok (.iconst 0, 1) := by decide +kernel
theorem dX9_isKnot_2 : decode cX9_isKnot 2 = .ok (.aload_n 0, 1) := by decide +kernel
theorem dX9_isKnot_3 : decode cX9_isKnot 3 = .ok (.getfield 20, 3) := by decide +kernel
theorem dX9_isKnot_6 : decode cX9_isKnot 6 = .ok (.aload_n 0, 1) := by decide +kernel
theorem dX9_isKnot_7 : decode cX9_isKnot 7 = .ok (.getfield 291, 3) := by decide +kernel
theorem dX9_isKnot_10 : decode cX9_isKnot 10 = .ok (.iaload, 1) := by decide +kernel
theorem dX9_isKnot_11 : decode cX9_isKnot 11 = .ok (.iconst 1, 1) := by decide +kernel
theorem dX9_isKnot_12 : decode cX9_isKnot 12 = .ok (.isub, 1) := by decide +kernel
theorem dX9_isKnot_13 : decode cX9_isKnot 13 = .ok (.invokestatic 389, 3) := by decide +kernel
theorem dX9_isKnot_16 : decode cX9_isKnot 16 = .ok (.ireturn, 1) := by decide +kernel
theorem dX9_isCord_0 : decode cX9_isCord 0 = .ok (.iload_n 1, 1) := by decide +kernel
theorem dX9_isCord_1 : decode cX9_isCord 1 = .ok (.iconst 0, 1) := by decide +kernel
theorem dX9_isCord_2 : decode cX9_isCord 2 = .ok (.aload_n 0, 1) := by decide +kernel
theorem dX9_isCord_3 : decode cX9_isCord 3 = .ok (.getfield 24, 3) := by decide +kernel
theorem dX9_isCord_6 : decode cX9_isCord 6 = .ok (.aload_n 0, 1) := by decide +kernel
theorem dX9_isCord_7 : decode cX9_isCord 7 = .ok (.getfield 291, 3) := by decide +kernel
theorem dX9_isCord_10 : decode cX9_isCord 10 = .ok (.iaload, 1) := by decide +kernel
theorem dX9_isCord_11 : decode cX9_isCord 11 = .ok (.iconst 1, 1) := by decide +kernel
theorem dX9_isCord_12 : decode cX9_isCord 12 = .ok (.isub, 1) := by decide +kernel
theorem dX9_isCord_13 : decode cX9_isCord 13 = .ok (.invokestatic 389, 3) := by decide +kernel
theorem dX9_isCord_16 : decode cX9_isCord 16 = .ok (.ireturn, 1) := by decide +kernel
theorem dX9_isWant_0 : decode cX9_isWant 0 = .ok (.iload_n 1, 1) := by decide +kernel
theorem dX9_isWant_1 : decode cX9_isWant 1 = .ok (.iconst 0, 1) := by decide +kernel
theorem dX9_isWant_2 : decode cX9_isWant 2 = .ok (.aload_n 0, 1) := by decide +kernel
theorem dX9_isWant_3 : decode cX9_isWant 3 = .ok (.getfield 33, 3) := by decide +kernel
theorem dX9_isWant_6 : decode cX9_isWant 6 = .ok (.aload_n 0, 1) := by decide +kernel
theorem dX9_isWant_7 : decode cX9_isWant 7 = .ok (.getfield 291, 3) := by decide +kernel
theorem dX9_isWant_10 : decode cX9_isWant 10 = .ok (.iaload, 1) := by decide +kernel
theorem dX9_isWant_11 : decode cX9_isWant 11 = .ok (.iconst 1, 1) := by decide +kernel
theorem dX9_isWant_12 : decode cX9_isWant 12 = .ok (.isub, 1) := by decide +kernel
theorem dX9_isWant_13 : decode cX9_isWant 13 = .ok (.invokestatic 389, 3) := by decide +kernel
theorem dX9_isWant_16 : decode cX9_isWant 16 = .ok (.ireturn, 1) := by decide +kernel
theorem dX9_isWalk_0 : decode cX9_isWalk 0 = .ok (.iload_n 1, 1) := by decide +kernel
theorem dX9_isWalk_1 : decode cX9_isWalk 1 = .ok (.iconst 0, 1) := by decide +kernel
theorem dX9_isWalk_2 : decode cX9_isWalk 2 = .ok (.aload_n 0, 1) := by decide +kernel
theorem dX9_isWalk_3 : decode cX9_isWalk 3 = .ok (.getfield 27, 3) := by decide +kernel
theorem dX9_isWalk_6 : decode cX9_isWalk 6 = .ok (.aload_n 0, 1) := by decide +kernel
theorem dX9_isWalk_7 : decode cX9_isWalk 7 = .ok (.getfield 291, 3) := by decide +kernel
theorem dX9_isWalk_10 : decode cX9_isWalk 10 = .ok (.iaload, 1) := by decide +kernel
theorem dX9_isWalk_11 : decode cX9_isWalk 11 = .ok (.iconst 1, 1) := by decide +kernel
theorem dX9_isWalk_12 : decode cX9_isWalk 12 = .ok (.isub, 1) := by decide +kernel
theorem dX9_isWalk_13 : decode cX9_isWalk 13 = .ok (.invokestatic 389, 3) := by decide +kernel
theorem dX9_isWalk_16 : decode cX9_isWalk 16 = .ok (.ireturn, 1) := by decide +kernel
theorem dX9_isLaw_0 : decode cX9_isLaw 0 = .ok (.iload_n 1, 1) := by decide +kernel
theorem dX9_isLaw_1 : decode cX9_isLaw 1 = .ok (.iconst 0, 1) := by decide +kernel
theorem dX9_isLaw_2 : decode cX9_isLaw 2 = .ok (.aload_n 0, 1) := by decide +kernel
theorem dX9_isLaw_3 : decode cX9_isLaw 3 = .ok (.getfield 30, 3) := by decide +kernel
theorem dX9_isLaw_6 : decode cX9_isLaw 6 = .ok (.aload_n 0, 1) := by decide +kernel
theorem dX9_isLaw_7 : decode cX9_isLaw 7 = .ok (.getfield 291, 3) := by decide +kernel
theorem dX9_isLaw_10 : decode cX9_isLaw 10 = .ok (.iaload, 1) := by decide +kernel
theorem dX9_isLaw_11 : decode cX9_isLaw 11 = .ok (.ifCond .le 17, 3) := by decide +kernel
theorem dX9_isLaw_28 : decode cX9_isLaw 28 = .ok (.iconst 0, 1) := by decide +kernel
theorem dX9_isLaw_29 : decode cX9_isLaw 29 = .ok (.invokestatic 389, 3) := by decide +kernel
theorem dX9_isLaw_32 : decode cX9_isLaw 32 = .ok (.ireturn, 1) := by decide +kernel
theorem dX9_isLaw_14 : decode cX9_isLaw 14 = .ok (.aload_n 0, 1) := by decide +kernel
theorem dX9_isLaw_15 : decode cX9_isLaw 15 = .ok (.getfield 30, 3) := by decide +kernel
theorem dX9_isLaw_18 : decode cX9_isLaw 18 = .ok (.aload_n 0, 1) := by decide +kernel
theorem dX9_isLaw_19 : decode cX9_isLaw 19 = .ok (.getfield 291, 3) := by decide +kernel
theorem dX9_isLaw_22 : decode cX9_isLaw 22 = .ok (.iaload, 1) := by decide +kernel
theorem dX9_isLaw_23 : decode cX9_isLaw 23 = .ok (.iconst 1, 1) := by decide +kernel
theorem dX9_isLaw_24 : decode cX9_isLaw 24 = .ok (.isub, 1) := by decide +kernel
theorem dX9_isLaw_25 : decode cX9_isLaw 25 = .ok (.goto 4, 3) := by decide +kernel
theorem dX9_isAll_0 : decode cX9_isAll 0 = .ok (.aload_n 0, 1) := by decide +kernel
theorem dX9_isAll_1 : decode cX9_isAll 1 = .ok (.iload_n 1, 1) := by decide +kernel
theorem dX9_isAll_2 : decode cX9_isAll 2 = .ok (.invokevirtual 431, 3) := by decide +kernel
theorem dX9_isAll_5 : decode cX9_isAll 5 = .ok (.ifCond .eq 23, 3) := by decide +kernel
theorem dX9_isAll_8 : decode cX9_isAll 8 = .ok (.aload_n 0, 1) := by decide +kernel
theorem dX9_isAll_9 : decode cX9_isAll 9 = .ok (.iload_n 2, 1) := by decide +kernel
theorem dX9_isAll_10 : decode cX9_isAll 10 = .ok (.invokevirtual 434, 3) := by decide +kernel
theorem dX9_isAll_13 : decode cX9_isAll 13 = .ok (.ifCond .eq 15, 3) := by decide +kernel
theorem dX9_isAll_16 : decode cX9_isAll 16 = .ok (.aload_n 0, 1) := by decide +kernel
theorem dX9_isAll_17 : decode cX9_isAll 17 = .ok (.iload_n 3, 1) := by decide +kernel
theorem dX9_isAll_18 : decode cX9_isAll 18 = .ok (.invokevirtual 455, 3) := by decide +kernel
theorem dX9_isAll_21 : decode cX9_isAll 21 = .ok (.ifCond .eq 7, 3) := by decide +kernel
theorem dX9_isAll_24 : decode cX9_isAll 24 = .ok (.iconst 1, 1) := by decide +kernel
theorem dX9_isAll_25 : decode cX9_isAll 25 = .ok (.goto 4, 3) := by decide +kernel
theorem dX9_isAll_29 : decode cX9_isAll 29 = .ok (.ireturn, 1) := by decide +kernel
theorem dX9_isAll_28 : decode cX9_isAll 28 = .ok (.iconst 0, 1) := by decide +kernel
theorem dX9_lawMany_0 : decode cX9_lawMany 0 = .ok (.aload_n 0, 1) := by decide +kernel
theorem dX9_lawMany_1 : decode cX9_lawMany 1 = .ok (.getfield 30, 3) := by decide +kernel
theorem dX9_lawMany_4 : decode cX9_lawMany 4 = .ok (.aload_n 0, 1) := by decide +kernel
theorem dX9_lawMany_5 : decode cX9_lawMany 5 = .ok (.getfield 291, 3) := by decide +kernel
theorem dX9_lawMany_8 : decode cX9_lawMany 8 = .ok (.iaload, 1) := by decide +kernel
theorem dX9_lawMany_9 : decode cX9_lawMany 9 = .ok (.ifCond .le 15, 3) := by decide +kernel
theorem dX9_lawMany_24 : decode cX9_lawMany 24 = .ok (.iconst 1, 1) := by decide +kernel
theorem dX9_lawMany_25 : decode cX9_lawMany 25 = .ok (.ireturn, 1) := by decide +kernel
theorem dX9_lawMany_12 : decode cX9_lawMany 12 = .ok (.aload_n 0, 1) := by decide +kernel
theorem dX9_lawMany_13 : decode cX9_lawMany 13 = .ok (.getfield 30, 3) := by decide +kernel
theorem dX9_lawMany_16 : decode cX9_lawMany 16 = .ok (.aload_n 0, 1) := by decide +kernel
theorem dX9_lawMany_17 : decode cX9_lawMany 17 = .ok (.getfield 291, 3) := by decide +kernel
theorem dX9_lawMany_20 : decode cX9_lawMany 20 = .ok (.iaload, 1) := by decide +kernel
theorem dX9_lawMany_21 : decode cX9_lawMany 21 = .ok (.goto 4, 3) := by decide +kernel
theorem dX9_sideOf_0 : decode cX9_sideOf 0 = .ok (.aload_n 0, 1) := by decide +kernel
theorem dX9_sideOf_1 : decode cX9_sideOf 1 = .ok (.getfield 393, 3) := by decide +kernel
theorem dX9_sideOf_4 : decode cX9_sideOf 4 = .ok (.iload_n 1, 1) := by decide +kernel
theorem dX9_sideOf_5 : decode cX9_sideOf 5 = .ok (.ishr, 1) := by decide +kernel
theorem dX9_sideOf_6 : decode cX9_sideOf 6 = .ok (.iconst 1, 1) := by decide +kernel
theorem dX9_sideOf_7 : decode cX9_sideOf 7 = .ok (.iand, 1) := by decide +kernel
theorem dX9_sideOf_8 : decode cX9_sideOf 8 = .ok (.ireturn, 1) := by decide +kernel
theorem dX9_two_0 : decode cX9_two 0 = .ok (.iload_n 0, 1) := by decide +kernel
theorem dX9_two_1 : decode cX9_two 1 = .ok (.tableswitch 186 38 62 #[172, 186, 186, 186, 123, 115, 186, 119, 186, 127, 186, 186, 186, 186, 186, 186, 186, 186, 186, 186, 186, 186, 139, 161, 150], 115) := by decide +kernel
theorem dX9_two_173 : decode cX9_two 173 = .ok (.iload_n 1, 1) := by decide +kernel
theorem dX9_two_174 : decode cX9_two 174 = .ok (.ifCond .eq 11, 3) := by decide +kernel
theorem dX9_two_185 : decode cX9_two 185 = .ok (.iconst 0, 1) := by decide +kernel
theorem dX9_two_186 : decode cX9_two 186 = .ok (.ireturn, 1) := by decide +kernel
theorem dX9_two_177 : decode cX9_two 177 = .ok (.iload_n 2, 1) := by decide +kernel
theorem dX9_two_178 : decode cX9_two 178 = .ok (.ifCond .eq 7, 3) := by decide +kernel
theorem dX9_two_181 : decode cX9_two 181 = .ok (.iconst 1, 1) := by decide +kernel
theorem dX9_two_182 : decode cX9_two 182 = .ok (.goto 4, 3) := by decide +kernel
theorem dX9_two_187 : decode cX9_two 187 = .ok (.iload_n 1, 1) := by decide +kernel
theorem dX9_two_188 : decode cX9_two 188 = .ok (.ifCond .ne 7, 3) := by decide +kernel
theorem dX9_two_195 : decode cX9_two 195 = .ok (.iconst 1, 1) := by decide +kernel
theorem dX9_two_196 : decode cX9_two 196 = .ok (.goto 4, 3) := by decide +kernel
theorem dX9_two_200 : decode cX9_two 200 = .ok (.ireturn, 1) := by decide +kernel
theorem dX9_two_191 : decode cX9_two 191 = .ok (.iload_n 2, 1) := by decide +kernel
theorem dX9_two_192 : decode cX9_two 192 = .ok (.ifCond .eq 7, 3) := by decide +kernel
theorem dX9_two_199 : decode cX9_two 199 = .ok (.iconst 0, 1) := by decide +kernel
theorem dX9_two_124 : decode cX9_two 124 = .ok (.iload_n 1, 1) := by decide +kernel
theorem dX9_two_125 : decode cX9_two 125 = .ok (.iload_n 2, 1) := by decide +kernel
theorem dX9_two_126 : decode cX9_two 126 = .ok (.imul, 1) := by decide +kernel
theorem dX9_two_127 : decode cX9_two 127 = .ok (.ireturn, 1) := by decide +kernel
theorem dX9_two_116 : decode cX9_two 116 = .ok (.iload_n 1, 1) := by decide +kernel
theorem dX9_two_117 : decode cX9_two 117 = .ok (.iload_n 2, 1) := by decide +kernel
theorem dX9_two_118 : decode cX9_two 118 = .ok (.iadd, 1) := by decide +kernel
theorem dX9_two_119 : decode cX9_two 119 = .ok (.ireturn, 1) := by decide +kernel
theorem dX9_two_120 : decode cX9_two 120 = .ok (.iload_n 1, 1) := by decide +kernel
theorem dX9_two_121 : decode cX9_two 121 = .ok (.iload_n 2, 1) := by decide +kernel
theorem dX9_two_122 : decode cX9_two 122 = .ok (.isub, 1) := by decide +kernel
theorem dX9_two_123 : decode cX9_two 123 = .ok (.ireturn, 1) := by decide +kernel
theorem dX9_two_128 : decode cX9_two 128 = .ok (.iload_n 2, 1) := by decide +kernel
theorem dX9_two_129 : decode cX9_two 129 = .ok (.ifCond .ne 7, 3) := by decide +kernel
theorem dX9_two_136 : decode cX9_two 136 = .ok (.iload_n 1, 1) := by decide +kernel
theorem dX9_two_137 : decode cX9_two 137 = .ok (.iload_n 2, 1) := by decide +kernel
theorem dX9_two_138 : decode cX9_two 138 = .ok (.idiv, 1) := by decide +kernel
theorem dX9_two_139 : decode cX9_two 139 = .ok (.ireturn, 1) := by decide +kernel
theorem dX9_two_132 : decode cX9_two 132 = .ok (.iconst 0, 1) := by decide +kernel
theorem dX9_two_133 : decode cX9_two 133 = .ok (.goto 6, 3) := by decide +kernel
theorem dX9_two_140 : decode cX9_two 140 = .ok (.iload_n 1, 1) := by decide +kernel
theorem dX9_two_141 : decode cX9_two 141 = .ok (.iload_n 2, 1) := by decide +kernel
theorem dX9_two_142 : decode cX9_two 142 = .ok (.if_icmp .ge 7, 3) := by decide +kernel
theorem dX9_two_149 : decode cX9_two 149 = .ok (.iconst 0, 1) := by decide +kernel
theorem dX9_two_150 : decode cX9_two 150 = .ok (.ireturn, 1) := by decide +kernel
theorem dX9_two_145 : decode cX9_two 145 = .ok (.iconst 1, 1) := by decide +kernel
theorem dX9_two_146 : decode cX9_two 146 = .ok (.goto 4, 3) := by decide +kernel
theorem dX9_two_162 : decode cX9_two 162 = .ok (.iload_n 1, 1) := by decide +kernel
theorem dX9_two_163 : decode cX9_two 163 = .ok (.iload_n 2, 1) := by decide +kernel
theorem dX9_two_164 : decode cX9_two 164 = .ok (.if_icmp .ne 7, 3) := by decide +kernel
theorem dX9_two_171 : decode cX9_two 171 = .ok (.iconst 0, 1) := by decide +kernel
theorem dX9_two_172 : decode cX9_two 172 = .ok (.ireturn, 1) := by decide +kernel
theorem dX9_two_167 : decode cX9_two 167 = .ok (.iconst 1, 1) := by decide +kernel
theorem dX9_two_168 : decode cX9_two 168 = .ok (.goto 4, 3) := by decide +kernel
theorem dX9_two_151 : decode cX9_two 151 = .ok (.iload_n 1, 1) := by decide +kernel
theorem dX9_two_152 : decode cX9_two 152 = .ok (.iload_n 2, 1) := by decide +kernel
theorem dX9_two_153 : decode cX9_two 153 = .ok (.if_icmp .le 7, 3) := by decide +kernel
theorem dX9_two_160 : decode cX9_two 160 = .ok (.iconst 0, 1) := by decide +kernel
theorem dX9_two_161 : decode cX9_two 161 = .ok (.ireturn, 1) := by decide +kernel
theorem dX9_two_156 : decode cX9_two 156 = .ok (.iconst 1, 1) := by decide +kernel
theorem dX9_two_157 : decode cX9_two 157 = .ok (.goto 4, 3) := by decide +kernel
theorem dX9_amount_0 : decode cX9_amount 0 = .ok (.iload_n 1, 1) := by decide +kernel
theorem dX9_amount_1 : decode cX9_amount 1 = .ok (.tableswitch 133 97 110 #[73, 80, 105, 107, 112, 117, 128, 133, 133, 133, 133, 133, 133, 71], 71) := by decide +kernel
theorem dX9_amount_74 : decode cX9_amount 74 = .ok (.aload_n 0, 1) := by decide +kernel
theorem dX9_amount_75 : decode cX9_amount 75 = .ok (.getfield 119, 3) := by decide +kernel
theorem dX9_amount_78 : decode cX9_amount 78 = .ok (.iload_n 3, 1) := by decide +kernel
theorem dX9_amount_79 : decode cX9_amount 79 = .ok (.iaload, 1) := by decide +kernel
theorem dX9_amount_80 : decode cX9_amount 80 = .ok (.ireturn, 1) := by decide +kernel
theorem dX9_amount_81 : decode cX9_amount 81 = .ok (.iload_n 3, 1) := by decide +kernel
theorem dX9_amount_82 : decode cX9_amount 82 = .ok (.ifCond .le 22, 3) := by decide +kernel
theorem dX9_amount_104 : decode cX9_amount 104 = .ok (.iconst 0, 1) := by decide +kernel
theorem dX9_amount_105 : decode cX9_amount 105 = .ok (.ireturn, 1) := by decide +kernel
theorem dX9_amount_85 : decode cX9_amount 85 = .ok (.aload_n 0, 1) := by decide +kernel
theorem dX9_amount_86 : decode cX9_amount 86 = .ok (.iload_n 3, 1) := by decide +kernel
theorem dX9_amount_87 : decode cX9_amount 87 = .ok (.invokevirtual 367, 3) := by decide +kernel
theorem dX9_amount_90 : decode cX9_amount 90 = .ok (.aload_n 0, 1) := by decide +kernel
theorem dX9_amount_91 : decode cX9_amount 91 = .ok (.iload_n 3, 1) := by decide +kernel
theorem dX9_amount_92 : decode cX9_amount 92 = .ok (.iconst 1, 1) := by decide +kernel
theorem dX9_amount_93 : decode cX9_amount 93 = .ok (.isub, 1) := by decide +kernel
theorem dX9_amount_94 : decode cX9_amount 94 = .ok (.invokevirtual 367, 3) := by decide +kernel
theorem dX9_amount_97 : decode cX9_amount 97 = .ok (.if_icmp .ne 7, 3) := by decide +kernel
theorem dX9_amount_100 : decode cX9_amount 100 = .ok (.iconst 1, 1) := by decide +kernel
theorem dX9_amount_101 : decode cX9_amount 101 = .ok (.goto 4, 3) := by decide +kernel
theorem dX9_amount_106 : decode cX9_amount 106 = .ok (.iload_n 3, 1) := by decide +kernel
theorem dX9_amount_107 : decode cX9_amount 107 = .ok (.ireturn, 1) := by decide +kernel
theorem dX9_amount_108 : decode cX9_amount 108 = .ok (.aload_n 0, 1) := by decide +kernel
theorem dX9_amount_109 : decode cX9_amount 109 = .ok (.getfield 370, 3) := by decide +kernel
theorem dX9_amount_112 : decode cX9_amount 112 = .ok (.ireturn, 1) := by decide +kernel
theorem dX9_amount_113 : decode cX9_amount 113 = .ok (.aload_n 0, 1) := by decide +kernel
theorem dX9_amount_114 : decode cX9_amount 114 = .ok (.getfield 373, 3) := by decide +kernel
theorem dX9_amount_117 : decode cX9_amount 117 = .ok (.ireturn, 1) := by decide +kernel
theorem dX9_amount_118 : decode cX9_amount 118 = .ok (.aload_n 0, 1) := by decide +kernel
theorem dX9_amount_119 : decode cX9_amount 119 = .ok (.getfield 122, 3) := by decide +kernel
theorem dX9_amount_122 : decode cX9_amount 122 = .ok (.aload_n 0, 1) := by decide +kernel
theorem dX9_amount_123 : decode cX9_amount 123 = .ok (.iload_n 3, 1) := by decide +kernel
theorem dX9_amount_124 : decode cX9_amount 124 = .ok (.invokevirtual 367, 3) := by decide +kernel
theorem dX9_amount_127 : decode cX9_amount 127 = .ok (.iaload, 1) := by decide +kernel
theorem dX9_amount_128 : decode cX9_amount 128 = .ok (.ireturn, 1) := by decide +kernel
theorem dX9_amount_129 : decode cX9_amount 129 = .ok (.aload_n 0, 1) := by decide +kernel
theorem dX9_amount_130 : decode cX9_amount 130 = .ok (.getfield 376, 3) := by decide +kernel
theorem dX9_amount_133 : decode cX9_amount 133 = .ok (.ireturn, 1) := by decide +kernel
theorem dX9_amount_134 : decode cX9_amount 134 = .ok (.aload_n 0, 1) := by decide +kernel
theorem dX9_amount_135 : decode cX9_amount 135 = .ok (.getfield 379, 3) := by decide +kernel
theorem dX9_amount_138 : decode cX9_amount 138 = .ok (.ireturn, 1) := by decide +kernel
theorem dX9_amount_72 : decode cX9_amount 72 = .ok (.iload_n 2, 1) := by decide +kernel
theorem dX9_amount_73 : decode cX9_amount 73 = .ok (.ireturn, 1) := by decide +kernel
theorem dX9_comes_0 : decode cX9_comes 0 = .ok (.iconst 0, 1) := by decide +kernel
theorem dX9_comes_1 : decode cX9_comes 1 = .ok (.istore_n 3, 1) := by decide +kernel
theorem dX9_comes_2 : decode cX9_comes 2 = .ok (.aload_n 0, 1) := by decide +kernel
theorem dX9_comes_3 : decode cX9_comes 3 = .ok (.getfield 98, 3) := by decide +kernel
theorem dX9_comes_6 : decode cX9_comes 6 = .ok (.iload_n 1, 1) := by decide +kernel
theorem dX9_comes_7 : decode cX9_comes 7 = .ok (.iaload, 1) := by decide +kernel
theorem dX9_comes_8 : decode cX9_comes 8 = .ok (.istore 4, 2) := by decide +kernel
theorem dX9_comes_10 : decode cX9_comes 10 = .ok (.iload 4, 2) := by decide +kernel
theorem dX9_comes_12 : decode cX9_comes 12 = .ok (.aload_n 0, 1) := by decide +kernel
theorem dX9_comes_13 : decode cX9_comes 13 = .ok (.getfield 101, 3) := by decide +kernel
theorem dX9_comes_16 : decode cX9_comes 16 = .ok (.iload_n 1, 1) := by decide +kernel
theorem dX9_comes_17 : decode cX9_comes 17 = .ok (.iaload, 1) := by decide +kernel
theorem dX9_comes_18 : decode cX9_comes 18 = .ok (.if_icmp .ge 116, 3) := by decide +kernel
theorem dX9_comes_134 : decode cX9_comes 134 = .ok (.aload_n 0, 1) := by decide +kernel
theorem dX9_comes_135 : decode cX9_comes 135 = .ok (.getfield 116, 3) := by decide +kernel
theorem dX9_comes_138 : decode cX9_comes 138 = .ok (.iconst 0, 1) := by decide +kernel
theorem dX9_comes_139 : decode cX9_comes 139 = .ok (.iaload, 1) := by decide +kernel
theorem dX9_comes_140 : decode cX9_comes 140 = .ok (.ireturn, 1) := by decide +kernel
theorem dX9_comes_21 : decode cX9_comes 21 = .ok (.aload_n 0, 1) := by decide +kernel
theorem dX9_comes_22 : decode cX9_comes 22 = .ok (.getfield 104, 3) := by decide +kernel
theorem dX9_comes_25 : decode cX9_comes 25 = .ok (.iload 4, 2) := by decide +kernel
theorem dX9_comes_27 : decode cX9_comes 27 = .ok (.iaload, 1) := by decide +kernel
theorem dX9_comes_28 : decode cX9_comes 28 = .ok (.istore 5, 2) := by decide +kernel
theorem dX9_comes_30 : decode cX9_comes 30 = .ok (.iload 5, 2) := by decide +kernel
theorem dX9_comes_32 : decode cX9_comes 32 = .ok (.bipush 126, 2) := by decide +kernel
theorem dX9_comes_34 : decode cX9_comes 34 = .ok (.if_icmp .ne 30, 3) := by decide +kernel
theorem dX9_comes_64 : decode cX9_comes 64 = .ok (.iload 5, 2) := by decide +kernel
theorem dX9_comes_66 : decode cX9_comes 66 = .ok (.invokestatic 233, 3) := by decide +kernel
theorem dX9_comes_69 : decode cX9_comes 69 = .ok (.ifCond .eq 29, 3) := by decide +kernel
theorem dX9_comes_72 : decode cX9_comes 72 = .ok (.aload_n 0, 1) := by decide +kernel
theorem dX9_comes_73 : decode cX9_comes 73 = .ok (.getfield 116, 3) := by decide +kernel
theorem dX9_comes_76 : decode cX9_comes 76 = .ok (.iload_n 3, 1) := by decide +kernel
theorem dX9_comes_77 : decode cX9_comes 77 = .ok (.aload_n 0, 1) := by decide +kernel
theorem dX9_comes_78 : decode cX9_comes 78 = .ok (.iload 5, 2) := by decide +kernel
theorem dX9_comes_80 : decode cX9_comes 80 = .ok (.aload_n 0, 1) := by decide +kernel
theorem dX9_comes_81 : decode cX9_comes 81 = .ok (.getfield 107, 3) := by decide +kernel
theorem dX9_comes_84 : decode cX9_comes 84 = .ok (.iload 4, 2) := by decide +kernel
theorem dX9_comes_86 : decode cX9_comes 86 = .ok (.iaload, 1) := by decide +kernel
theorem dX9_comes_87 : decode cX9_comes 87 = .ok (.iload_n 2, 1) := by decide +kernel
theorem dX9_comes_88 : decode cX9_comes 88 = .ok (.invokevirtual 382, 3) := by decide +kernel
theorem dX9_comes_91 : decode cX9_comes 91 = .ok (.iastore, 1) := by decide +kernel
theorem dX9_comes_92 : decode cX9_comes 92 = .ok (.iinc 3 1, 3) := by decide +kernel
theorem dX9_comes_95 : decode cX9_comes 95 = .ok (.goto 33, 3) := by decide +kernel
theorem dX9_comes_128 : decode cX9_comes 128 = .ok (.iinc 4 1, 3) := by decide +kernel
theorem dX9_comes_131 : decode cX9_comes 131 = .ok (.goto (-121), 3) := by decide +kernel
theorem dX9_comes_98 : decode cX9_comes 98 = .ok (.iinc 3 (-1), 3) := by decide +kernel
theorem dX9_comes_101 : decode cX9_comes 101 = .ok (.aload_n 0, 1) := by decide +kernel
theorem dX9_comes_102 : decode cX9_comes 102 = .ok (.getfield 116, 3) := by decide +kernel
theorem dX9_comes_105 : decode cX9_comes 105 = .ok (.iload_n 3, 1) := by decide +kernel
theorem dX9_comes_106 : decode cX9_comes 106 = .ok (.iconst 1, 1) := by decide +kernel
theorem dX9_comes_107 : decode cX9_comes 107 = .ok (.isub, 1) := by decide +kernel
theorem dX9_comes_108 : decode cX9_comes 108 = .ok (.iload 5, 2) := by decide +kernel
theorem dX9_comes_110 : decode cX9_comes 110 = .ok (.aload_n 0, 1) := by decide +kernel
theorem dX9_comes_111 : decode cX9_comes 111 = .ok (.getfield 116, 3) := by decide +kernel
theorem dX9_comes_114 : decode cX9_comes 114 = .ok (.iload_n 3, 1) := by decide +kernel
theorem dX9_comes_115 : decode cX9_comes 115 = .ok (.iconst 1, 1) := by decide +kernel
theorem dX9_comes_116 : decode cX9_comes 116 = .ok (.isub, 1) := by decide +kernel
theorem dX9_comes_117 : decode cX9_comes 117 = .ok (.iaload, 1) := by decide +kernel
theorem dX9_comes_118 : decode cX9_comes 118 = .ok (.aload_n 0, 1) := by decide +kernel
theorem dX9_comes_119 : decode cX9_comes 119 = .ok (.getfield 116, 3) := by decide +kernel
theorem dX9_comes_122 : decode cX9_comes 122 = .ok (.iload_n 3, 1) := by decide +kernel
theorem dX9_comes_123 : decode cX9_comes 123 = .ok (.iaload, 1) := by decide +kernel
theorem dX9_comes_124 : decode cX9_comes 124 = .ok (.invokestatic 386, 3) := by decide +kernel
theorem dX9_comes_127 : decode cX9_comes 127 = .ok (.iastore, 1) := by decide +kernel
theorem dX9_comes_37 : decode cX9_comes 37 = .ok (.aload_n 0, 1) := by decide +kernel
theorem dX9_comes_38 : decode cX9_comes 38 = .ok (.getfield 116, 3) := by decide +kernel
theorem dX9_comes_41 : decode cX9_comes 41 = .ok (.iload_n 3, 1) := by decide +kernel
theorem dX9_comes_42 : decode cX9_comes 42 = .ok (.iconst 1, 1) := by decide +kernel
theorem dX9_comes_43 : decode cX9_comes 43 = .ok (.isub, 1) := by decide +kernel
theorem dX9_comes_44 : decode cX9_comes 44 = .ok (.aload_n 0, 1) := by decide +kernel
theorem dX9_comes_45 : decode cX9_comes 45 = .ok (.getfield 116, 3) := by decide +kernel
theorem dX9_comes_48 : decode cX9_comes 48 = .ok (.iload_n 3, 1) := by decide +kernel
theorem dX9_comes_49 : decode cX9_comes 49 = .ok (.iconst 1, 1) := by decide +kernel
theorem dX9_comes_50 : decode cX9_comes 50 = .ok (.isub, 1) := by decide +kernel
theorem dX9_comes_51 : decode cX9_comes 51 = .ok (.iaload, 1) := by decide +kernel
theorem dX9_comes_52 : decode cX9_comes 52 = .ok (.ifCond .ne 7, 3) := by decide +kernel
theorem dX9_comes_59 : decode cX9_comes 59 = .ok (.iconst 0, 1) := by decide +kernel
theorem dX9_comes_60 : decode cX9_comes 60 = .ok (.iastore, 1) := by decide +kernel
theorem dX9_comes_61 : decode cX9_comes 61 = .ok (.goto 67, 3) := by decide +kernel
theorem dX9_comes_55 : decode cX9_comes 55 = .ok (.iconst 1, 1) := by decide +kernel
theorem dX9_comes_56 : decode cX9_comes 56 = .ok (.goto 4, 3) := by decide +kernel
theorem dX9_rub_0 : decode cX9_rub 0 = .ok (.aload_n 0, 1) := by decide +kernel
theorem dX9_rub_1 : decode cX9_rub 1 = .ok (.getfield 30, 3) := by decide +kernel
theorem dX9_rub_4 : decode cX9_rub 4 = .ok (.aload_n 0, 1) := by decide +kernel
theorem dX9_rub_5 : decode cX9_rub 5 = .ok (.getfield 291, 3) := by decide +kernel
theorem dX9_rub_8 : decode cX9_rub 8 = .ok (.iaload, 1) := by decide +kernel
theorem dX9_rub_9 : decode cX9_rub 9 = .ok (.ifCond .ne 22, 3) := by decide +kernel
theorem dX9_rub_31 : decode cX9_rub 31 = .ok (.aload_n 0, 1) := by decide +kernel
theorem dX9_rub_32 : decode cX9_rub 32 = .ok (.iconst 2, 1) := by decide +kernel
theorem dX9_rub_33 : decode cX9_rub 33 = .ok (.iconst 3, 1) := by decide +kernel
theorem dX9_rub_34 : decode cX9_rub 34 = .ok (.aload_n 0, 1) := by decide +kernel
theorem dX9_rub_35 : decode cX9_rub 35 = .ok (.getfield 291, 3) := by decide +kernel
theorem dX9_rub_38 : decode cX9_rub 38 = .ok (.imul, 1) := by decide +kernel
theorem dX9_rub_39 : decode cX9_rub 39 = .ok (.iload_n 1, 1) := by decide +kernel
theorem dX9_rub_40 : decode cX9_rub 40 = .ok (.iadd, 1) := by decide +kernel
theorem dX9_rub_41 : decode cX9_rub 41 = .ok (.imul, 1) := by decide +kernel
theorem dX9_rub_42 : decode cX9_rub 42 = .ok (.iload_n 2, 1) := by decide +kernel
theorem dX9_rub_43 : decode cX9_rub 43 = .ok (.invokevirtual 406, 3) := by decide +kernel
theorem dX9_rub_46 : decode cX9_rub 46 = .ok (.ireturn, 1) := by decide +kernel
theorem dX9_rub_12 : decode cX9_rub 12 = .ok (.aload_n 0, 1) := by decide +kernel
theorem dX9_rub_13 : decode cX9_rub 13 = .ok (.getfield 119, 3) := by decide +kernel
theorem dX9_rub_16 : decode cX9_rub 16 = .ok (.iload_n 2, 1) := by decide +kernel
theorem dX9_rub_17 : decode cX9_rub 17 = .ok (.iaload, 1) := by decide +kernel
theorem dX9_rub_18 : decode cX9_rub 18 = .ok (.aload_n 0, 1) := by decide +kernel
theorem dX9_rub_19 : decode cX9_rub 19 = .ok (.getfield 376, 3) := by decide +kernel
theorem dX9_rub_22 : decode cX9_rub 22 = .ok (.isub, 1) := by decide +kernel
theorem dX9_rub_23 : decode cX9_rub 23 = .ok (.aload_n 0, 1) := by decide +kernel
theorem dX9_rub_24 : decode cX9_rub 24 = .ok (.getfield 370, 3) := by decide +kernel
theorem dX9_rub_27 : decode cX9_rub 27 = .ok (.isub, 1) := by decide +kernel
theorem dX9_rub_28 : decode cX9_rub 28 = .ok (.goto 18, 3) := by decide +kernel
theorem dX9_pullOf_0 : decode cX9_pullOf 0 = .ok (.aload_n 0, 1) := by decide +kernel
theorem dX9_pullOf_1 : decode cX9_pullOf 1 = .ok (.getfield 30, 3) := by decide +kernel
theorem dX9_pullOf_4 : decode cX9_pullOf 4 = .ok (.aload_n 0, 1) := by decide +kernel
theorem dX9_pullOf_5 : decode cX9_pullOf 5 = .ok (.getfield 291, 3) := by decide +kernel
theorem dX9_pullOf_8 : decode cX9_pullOf 8 = .ok (.iaload, 1) := by decide +kernel
theorem dX9_pullOf_9 : decode cX9_pullOf 9 = .ok (.ifCond .ne 29, 3) := by decide +kernel
theorem dX9_pullOf_38 : decode cX9_pullOf 38 = .ok (.aload_n 0, 1) := by decide +kernel
theorem dX9_pullOf_39 : decode cX9_pullOf 39 = .ok (.iconst 2, 1) := by decide +kernel
theorem dX9_pullOf_40 : decode cX9_pullOf 40 = .ok (.iconst 3, 1) := by decide +kernel
theorem dX9_pullOf_41 : decode cX9_pullOf 41 = .ok (.aload_n 0, 1) := by decide +kernel
theorem dX9_pullOf_42 : decode cX9_pullOf 42 = .ok (.getfield 291, 3) := by decide +kernel
theorem dX9_pullOf_45 : decode cX9_pullOf 45 = .ok (.imul, 1) := by decide +kernel
theorem dX9_pullOf_46 : decode cX9_pullOf 46 = .ok (.iload_n 1, 1) := by decide +kernel
theorem dX9_pullOf_47 : decode cX9_pullOf 47 = .ok (.iadd, 1) := by decide +kernel
theorem dX9_pullOf_48 : decode cX9_pullOf 48 = .ok (.imul, 1) := by decide +kernel
theorem dX9_pullOf_49 : decode cX9_pullOf 49 = .ok (.iconst 1, 1) := by decide +kernel
theorem dX9_pullOf_50 : decode cX9_pullOf 50 = .ok (.iadd, 1) := by decide +kernel
theorem dX9_pullOf_51 : decode cX9_pullOf 51 = .ok (.iload_n 2, 1) := by decide +kernel
theorem dX9_pullOf_52 : decode cX9_pullOf 52 = .ok (.invokevirtual 406, 3) := by decide +kernel
theorem dX9_pullOf_55 : decode cX9_pullOf 55 = .ok (.ireturn, 1) := by decide +kernel
theorem dX9_pullOf_12 : decode cX9_pullOf 12 = .ok (.aload_n 0, 1) := by decide +kernel
theorem dX9_pullOf_13 : decode cX9_pullOf 13 = .ok (.getfield 373, 3) := by decide +kernel
theorem dX9_pullOf_16 : decode cX9_pullOf 16 = .ok (.aload_n 0, 1) := by decide +kernel
theorem dX9_pullOf_17 : decode cX9_pullOf 17 = .ok (.getfield 122, 3) := by decide +kernel
theorem dX9_pullOf_20 : decode cX9_pullOf 20 = .ok (.aload_n 0, 1) := by decide +kernel
theorem dX9_pullOf_21 : decode cX9_pullOf 21 = .ok (.iload_n 2, 1) := by decide +kernel
theorem dX9_pullOf_22 : decode cX9_pullOf 22 = .ok (.invokevirtual 367, 3) := by decide +kernel
theorem dX9_pullOf_25 : decode cX9_pullOf 25 = .ok (.iaload, 1) := by decide +kernel
theorem dX9_pullOf_26 : decode cX9_pullOf 26 = .ok (.aload_n 0, 1) := by decide +kernel
theorem dX9_pullOf_27 : decode cX9_pullOf 27 = .ok (.getfield 379, 3) := by decide +kernel
theorem dX9_pullOf_30 : decode cX9_pullOf 30 = .ok (.imul, 1) := by decide +kernel
theorem dX9_pullOf_31 : decode cX9_pullOf 31 = .ok (.bipush 100, 2) := by decide +kernel
theorem dX9_pullOf_33 : decode cX9_pullOf 33 = .ok (.idiv, 1) := by decide +kernel
theorem dX9_pullOf_34 : decode cX9_pullOf 34 = .ok (.iadd, 1) := by decide +kernel
theorem dX9_pullOf_35 : decode cX9_pullOf 35 = .ok (.goto 20, 3) := by decide +kernel
theorem dX9_pullIt_0 : decode cX9_pullIt 0 = .ok (.iconst 0, 1) := by decide +kernel
theorem dX9_pullIt_1 : decode cX9_pullIt 1 = .ok (.istore_n 3, 1) := by decide +kernel
theorem dX9_pullIt_2 : decode cX9_pullIt 2 = .ok (.iconst 0, 1) := by decide +kernel
theorem dX9_pullIt_3 : decode cX9_pullIt 3 = .ok (.istore 4, 2) := by decide +kernel
theorem dX9_pullIt_5 : decode cX9_pullIt 5 = .ok (.aload_n 0, 1) := by decide +kernel
theorem dX9_pullIt_6 : decode cX9_pullIt 6 = .ok (.getfield 396, 3) := by decide +kernel
theorem dX9_pullIt_9 : decode cX9_pullIt 9 = .ok (.iconst 1, 1) := by decide +kernel
theorem dX9_pullIt_10 : decode cX9_pullIt 10 = .ok (.isub, 1) := by decide +kernel
theorem dX9_pullIt_11 : decode cX9_pullIt 11 = .ok (.istore 5, 2) := by decide +kernel
theorem dX9_pullIt_13 : decode cX9_pullIt 13 = .ok (.iload 5, 2) := by decide +kernel
theorem dX9_pullIt_15 : decode cX9_pullIt 15 = .ok (.ifCond .lt 154, 3) := by decide +kernel
theorem dX9_pullIt_169 : decode cX9_pullIt 169 = .ok (.aload_n 0, 1) := by decide +kernel
theorem dX9_pullIt_170 : decode cX9_pullIt 170 = .ok (.getfield 396, 3) := by decide +kernel
theorem dX9_pullIt_173 : decode cX9_pullIt 173 = .ok (.ifCond .le 30, 3) := by decide +kernel
theorem dX9_pullIt_203 : decode cX9_pullIt 203 = .ok (.iload_n 3, 1) := by decide +kernel
theorem dX9_pullIt_204 : decode cX9_pullIt 204 = .ok (.ireturn, 1) := by decide +kernel
theorem dX9_pullIt_176 : decode cX9_pullIt 176 = .ok (.aload_n 0, 1) := by decide +kernel
theorem dX9_pullIt_177 : decode cX9_pullIt 177 = .ok (.getfield 119, 3) := by decide +kernel
theorem dX9_pullIt_180 : decode cX9_pullIt 180 = .ok (.aload_n 0, 1) := by decide +kernel
theorem dX9_pullIt_181 : decode cX9_pullIt 181 = .ok (.getfield 396, 3) := by decide +kernel
theorem dX9_pullIt_184 : decode cX9_pullIt 184 = .ok (.iconst 1, 1) := by decide +kernel
theorem dX9_pullIt_185 : decode cX9_pullIt 185 = .ok (.isub, 1) := by decide +kernel
theorem dX9_pullIt_186 : decode cX9_pullIt 186 = .ok (.iaload, 1) := by decide +kernel
theorem dX9_pullIt_187 : decode cX9_pullIt 187 = .ok (.ifCond .ne 16, 3) := by decide +kernel
theorem dX9_pullIt_190 : decode cX9_pullIt 190 = .ok (.aload_n 0, 1) := by decide +kernel
theorem dX9_pullIt_191 : decode cX9_pullIt 191 = .ok (.dup, 1) := by decide +kernel
theorem dX9_pullIt_192 : decode cX9_pullIt 192 = .ok (.getfield 396, 3) := by decide +kernel
theorem dX9_pullIt_195 : decode cX9_pullIt 195 = .ok (.iconst 1, 1) := by decide +kernel
theorem dX9_pullIt_196 : decode cX9_pullIt 196 = .ok (.isub, 1) := by decide +kernel
theorem dX9_pullIt_197 : decode cX9_pullIt 197 = .ok (.putfield 396, 3) := by decide +kernel
theorem dX9_pullIt_200 : decode cX9_pullIt 200 = .ok (.goto (-31), 3) := by decide +kernel
theorem dX9_pullIt_18 : decode cX9_pullIt 18 = .ok (.iload 5, 2) := by decide +kernel
theorem dX9_pullIt_20 : decode cX9_pullIt 20 = .ok (.aload_n 0, 1) := by decide +kernel
theorem dX9_pullIt_21 : decode cX9_pullIt 21 = .ok (.getfield 396, 3) := by decide +kernel
theorem dX9_pullIt_24 : decode cX9_pullIt 24 = .ok (.iconst 1, 1) := by decide +kernel
theorem dX9_pullIt_25 : decode cX9_pullIt 25 = .ok (.isub, 1) := by decide +kernel
theorem dX9_pullIt_26 : decode cX9_pullIt 26 = .ok (.if_icmp .ge 13, 3) := by decide +kernel
theorem dX9_pullIt_39 : decode cX9_pullIt 39 = .ok (.iload_n 2, 1) := by decide +kernel
theorem dX9_pullIt_40 : decode cX9_pullIt 40 = .ok (.ifCond .lt 8, 3) := by decide +kernel
theorem dX9_pullIt_48 : decode cX9_pullIt 48 = .ok (.aload_n 0, 1) := by decide +kernel
theorem dX9_pullIt_49 : decode cX9_pullIt 49 = .ok (.iload_n 1, 1) := by decide +kernel
theorem dX9_pullIt_50 : decode cX9_pullIt 50 = .ok (.iload 5, 2) := by decide +kernel
theorem dX9_pullIt_52 : decode cX9_pullIt 52 = .ok (.invokevirtual 411, 3) := by decide +kernel
theorem dX9_pullIt_55 : decode cX9_pullIt 55 = .ok (.i2l, 1) := by decide +kernel
theorem dX9_pullIt_56 : decode cX9_pullIt 56 = .ok (.lstore 6, 2) := by decide +kernel
theorem dX9_pullIt_58 : decode cX9_pullIt 58 = .ok (.lload 6, 2) := by decide +kernel
theorem dX9_pullIt_60 : decode cX9_pullIt 60 = .ok (.aload_n 0, 1) := by decide +kernel
theorem dX9_pullIt_61 : decode cX9_pullIt 61 = .ok (.iload_n 1, 1) := by decide +kernel
theorem dX9_pullIt_62 : decode cX9_pullIt 62 = .ok (.iload 5, 2) := by decide +kernel
theorem dX9_pullIt_64 : decode cX9_pullIt 64 = .ok (.invokevirtual 414, 3) := by decide +kernel
theorem dX9_pullIt_67 : decode cX9_pullIt 67 = .ok (.i2l, 1) := by decide +kernel
theorem dX9_pullIt_68 : decode cX9_pullIt 68 = .ok (.lsub, 1) := by decide +kernel
theorem dX9_pullIt_69 : decode cX9_pullIt 69 = .ok (.lstore 8, 2) := by decide +kernel
theorem dX9_pullIt_71 : decode cX9_pullIt 71 = .ok (.lload 8, 2) := by decide +kernel
theorem dX9_pullIt_73 : decode cX9_pullIt 73 = .ok (.lconst 0, 1) := by decide +kernel
theorem dX9_pullIt_74 : decode cX9_pullIt 74 = .ok (.lcmp, 1) := by decide +kernel
theorem dX9_pullIt_75 : decode cX9_pullIt 75 = .ok (.ifCond .gt 6, 3) := by decide +kernel
theorem dX9_pullIt_81 : decode cX9_pullIt 81 = .ok (.lload 8, 2) := by decide +kernel
theorem dX9_pullIt_83 : decode cX9_pullIt 83 = .ok (.ldc2_w 417, 3) := by decide +kernel
theorem dX9_pullIt_86 : decode cX9_pullIt 86 = .ok (.ladd, 1) := by decide +kernel
theorem dX9_pullIt_87 : decode cX9_pullIt 87 = .ok (.ldc2_w 419, 3) := by decide +kernel
theorem dX9_pullIt_90 : decode cX9_pullIt 90 = .ok (.ldiv, 1) := by decide +kernel
theorem dX9_pullIt_91 : decode cX9_pullIt 91 = .ok (.lstore 10, 2) := by decide +kernel
theorem dX9_pullIt_93 : decode cX9_pullIt 93 = .ok (.lload 10, 2) := by decide +kernel
theorem dX9_pullIt_95 : decode cX9_pullIt 95 = .ok (.aload_n 0, 1) := by decide +kernel
theorem dX9_pullIt_96 : decode cX9_pullIt 96 = .ok (.getfield 119, 3) := by decide +kernel
theorem dX9_pullIt_99 : decode cX9_pullIt 99 = .ok (.iload 5, 2) := by decide +kernel
theorem dX9_pullIt_101 : decode cX9_pullIt 101 = .ok (.iaload, 1) := by decide +kernel
theorem dX9_pullIt_102 : decode cX9_pullIt 102 = .ok (.i2l, 1) := by decide +kernel
theorem dX9_pullIt_103 : decode cX9_pullIt 103 = .ok (.lcmp, 1) := by decide +kernel
theorem dX9_pullIt_104 : decode cX9_pullIt 104 = .ok (.ifCond .le 13, 3) := by decide +kernel
theorem dX9_pullIt_117 : decode cX9_pullIt 117 = .ok (.lload 10, 2) := by decide +kernel
theorem dX9_pullIt_119 : decode cX9_pullIt 119 = .ok (.l2i, 1) := by decide +kernel
theorem dX9_pullIt_120 : decode cX9_pullIt 120 = .ok (.istore 4, 2) := by decide +kernel
theorem dX9_pullIt_122 : decode cX9_pullIt 122 = .ok (.iload 4, 2) := by decide +kernel
theorem dX9_pullIt_124 : decode cX9_pullIt 124 = .ok (.ifCond .ne 6, 3) := by decide +kernel
theorem dX9_pullIt_130 : decode cX9_pullIt 130 = .ok (.aload_n 0, 1) := by decide +kernel
theorem dX9_pullIt_131 : decode cX9_pullIt 131 = .ok (.getfield 119, 3) := by decide +kernel
theorem dX9_pullIt_134 : decode cX9_pullIt 134 = .ok (.iload 5, 2) := by decide +kernel
theorem dX9_pullIt_136 : decode cX9_pullIt 136 = .ok (.dup2, 1) := by decide +kernel
theorem dX9_pullIt_137 : decode cX9_pullIt 137 = .ok (.iaload, 1) := by decide +kernel
theorem dX9_pullIt_138 : decode cX9_pullIt 138 = .ok (.iload 4, 2) := by decide +kernel
theorem dX9_pullIt_140 : decode cX9_pullIt 140 = .ok (.isub, 1) := by decide +kernel
theorem dX9_pullIt_141 : decode cX9_pullIt 141 = .ok (.iastore, 1) := by decide +kernel
theorem dX9_pullIt_142 : decode cX9_pullIt 142 = .ok (.aload_n 0, 1) := by decide +kernel
theorem dX9_pullIt_143 : decode cX9_pullIt 143 = .ok (.getfield 122, 3) := by decide +kernel
theorem dX9_pullIt_146 : decode cX9_pullIt 146 = .ok (.aload_n 0, 1) := by decide +kernel
theorem dX9_pullIt_147 : decode cX9_pullIt 147 = .ok (.iload 5, 2) := by decide +kernel
theorem dX9_pullIt_149 : decode cX9_pullIt 149 = .ok (.invokevirtual 367, 3) := by decide +kernel
theorem dX9_pullIt_152 : decode cX9_pullIt 152 = .ok (.dup2, 1) := by decide +kernel
theorem dX9_pullIt_153 : decode cX9_pullIt 153 = .ok (.iaload, 1) := by decide +kernel
theorem dX9_pullIt_154 : decode cX9_pullIt 154 = .ok (.iload 4, 2) := by decide +kernel
theorem dX9_pullIt_156 : decode cX9_pullIt 156 = .ok (.iadd, 1) := by decide +kernel
theorem dX9_pullIt_157 : decode cX9_pullIt 157 = .ok (.iastore, 1) := by decide +kernel
theorem dX9_pullIt_158 : decode cX9_pullIt 158 = .ok (.iload_n 3, 1) := by decide +kernel
theorem dX9_pullIt_159 : decode cX9_pullIt 159 = .ok (.iload 4, 2) := by decide +kernel
theorem dX9_pullIt_161 : decode cX9_pullIt 161 = .ok (.iadd, 1) := by decide +kernel
theorem dX9_pullIt_162 : decode cX9_pullIt 162 = .ok (.istore_n 3, 1) := by decide +kernel
theorem dX9_pullIt_163 : decode cX9_pullIt 163 = .ok (.iinc 5 (-1), 3) := by decide +kernel
theorem dX9_pullIt_166 : decode cX9_pullIt 166 = .ok (.goto (-153), 3) := by decide +kernel
theorem dX9_pullIt_127 : decode cX9_pullIt 127 = .ok (.goto 42, 3) := by decide +kernel
theorem dX9_pullIt_107 : decode cX9_pullIt 107 = .ok (.aload_n 0, 1) := by decide +kernel
theorem dX9_pullIt_108 : decode cX9_pullIt 108 = .ok (.getfield 119, 3) := by decide +kernel
theorem dX9_pullIt_111 : decode cX9_pullIt 111 = .ok (.iload 5, 2) := by decide +kernel
theorem dX9_pullIt_113 : decode cX9_pullIt 113 = .ok (.iaload, 1) := by decide +kernel
theorem dX9_pullIt_114 : decode cX9_pullIt 114 = .ok (.goto 6, 3) := by decide +kernel
theorem dX9_pullIt_78 : decode cX9_pullIt 78 = .ok (.goto 91, 3) := by decide +kernel
theorem dX9_pullIt_43 : decode cX9_pullIt 43 = .ok (.iload_n 2, 1) := by decide +kernel
theorem dX9_pullIt_44 : decode cX9_pullIt 44 = .ok (.i2l, 1) := by decide +kernel
theorem dX9_pullIt_45 : decode cX9_pullIt 45 = .ok (.goto 11, 3) := by decide +kernel
theorem dX9_pullIt_29 : decode cX9_pullIt 29 = .ok (.ldc2_w 409, 3) := by decide +kernel
theorem dX9_pullIt_32 : decode cX9_pullIt 32 = .ok (.iload 4, 2) := by decide +kernel
theorem dX9_pullIt_34 : decode cX9_pullIt 34 = .ok (.i2l, 1) := by decide +kernel
theorem dX9_pullIt_35 : decode cX9_pullIt 35 = .ok (.lmul, 1) := by decide +kernel
theorem dX9_pullIt_36 : decode cX9_pullIt 36 = .ok (.goto 20, 3) := by decide +kernel
theorem dX9_stepIt_0 : decode cX9_stepIt 0 = .ok (.bipush 8, 2) := by decide +kernel
theorem dX9_stepIt_2 : decode cX9_stepIt 2 = .ok (.iconst 4, 1) := by decide +kernel
theorem dX9_stepIt_3 : decode cX9_stepIt 3 = .ok (.aload_n 0, 1) := by decide +kernel
theorem dX9_stepIt_4 : decode cX9_stepIt 4 = .ok (.getfield 291, 3) := by decide +kernel
theorem dX9_stepIt_7 : decode cX9_stepIt 7 = .ok (.imul, 1) := by decide +kernel
theorem dX9_stepIt_8 : decode cX9_stepIt 8 = .ok (.iload_n 1, 1) := by decide +kernel
theorem dX9_stepIt_9 : decode cX9_stepIt 9 = .ok (.iadd, 1) := by decide +kernel
theorem dX9_stepIt_10 : decode cX9_stepIt 10 = .ok (.imul, 1) := by decide +kernel
theorem dX9_stepIt_11 : decode cX9_stepIt 11 = .ok (.iload_n 2, 1) := by decide +kernel
theorem dX9_stepIt_12 : decode cX9_stepIt 12 = .ok (.aload_n 0, 1) := by decide +kernel
theorem dX9_stepIt_13 : decode cX9_stepIt 13 = .ok (.getfield 83, 3) := by decide +kernel
theorem dX9_stepIt_16 : decode cX9_stepIt 16 = .ok (.iconst 4, 1) := by decide +kernel
theorem dX9_stepIt_17 : decode cX9_stepIt 17 = .ok (.aload_n 0, 1) := by decide +kernel
theorem dX9_stepIt_18 : decode cX9_stepIt 18 = .ok (.getfield 291, 3) := by decide +kernel
theorem dX9_stepIt_21 : decode cX9_stepIt 21 = .ok (.imul, 1) := by decide +kernel
theorem dX9_stepIt_22 : decode cX9_stepIt 22 = .ok (.iload_n 1, 1) := by decide +kernel
theorem dX9_stepIt_23 : decode cX9_stepIt 23 = .ok (.iadd, 1) := by decide +kernel
theorem dX9_stepIt_24 : decode cX9_stepIt 24 = .ok (.iaload, 1) := by decide +kernel
theorem dX9_stepIt_25 : decode cX9_stepIt 25 = .ok (.irem, 1) := by decide +kernel
theorem dX9_stepIt_26 : decode cX9_stepIt 26 = .ok (.iadd, 1) := by decide +kernel
theorem dX9_stepIt_27 : decode cX9_stepIt 27 = .ok (.istore 4, 2) := by decide +kernel
theorem dX9_stepIt_29 : decode cX9_stepIt 29 = .ok (.aload_n 0, 1) := by decide +kernel
theorem dX9_stepIt_30 : decode cX9_stepIt 30 = .ok (.aload_n 0, 1) := by decide +kernel
theorem dX9_stepIt_31 : decode cX9_stepIt 31 = .ok (.getfield 86, 3) := by decide +kernel
theorem dX9_stepIt_34 : decode cX9_stepIt 34 = .ok (.iload 4, 2) := by decide +kernel
theorem dX9_stepIt_36 : decode cX9_stepIt 36 = .ok (.iaload, 1) := by decide +kernel
theorem dX9_stepIt_37 : decode cX9_stepIt 37 = .ok (.aload_n 0, 1) := by decide +kernel
theorem dX9_stepIt_38 : decode cX9_stepIt 38 = .ok (.getfield 421, 3) := by decide +kernel
theorem dX9_stepIt_41 : decode cX9_stepIt 41 = .ok (.if_icmp .le 18, 3) := by decide +kernel
theorem dX9_stepIt_59 : decode cX9_stepIt 59 = .ok (.iconst 0, 1) := by decide +kernel
theorem dX9_stepIt_60 : decode cX9_stepIt 60 = .ok (.putfield 376, 3) := by decide +kernel
theorem dX9_stepIt_63 : decode cX9_stepIt 63 = .ok (.aload_n 0, 1) := by decide +kernel
theorem dX9_stepIt_64 : decode cX9_stepIt 64 = .ok (.aload_n 0, 1) := by decide +kernel
theorem dX9_stepIt_65 : decode cX9_stepIt 65 = .ok (.getfield 89, 3) := by decide +kernel
theorem dX9_stepIt_68 : decode cX9_stepIt 68 = .ok (.iload 4, 2) := by decide +kernel
theorem dX9_stepIt_70 : decode cX9_stepIt 70 = .ok (.iaload, 1) := by decide +kernel
theorem dX9_stepIt_71 : decode cX9_stepIt 71 = .ok (.aload_n 0, 1) := by decide +kernel
theorem dX9_stepIt_72 : decode cX9_stepIt 72 = .ok (.getfield 424, 3) := by decide +kernel
theorem dX9_stepIt_75 : decode cX9_stepIt 75 = .ok (.if_icmp .le 18, 3) := by decide +kernel
theorem dX9_stepIt_93 : decode cX9_stepIt 93 = .ok (.iconst 0, 1) := by decide +kernel
theorem dX9_stepIt_94 : decode cX9_stepIt 94 = .ok (.putfield 379, 3) := by decide +kernel
theorem dX9_stepIt_97 : decode cX9_stepIt 97 = .ok (.aload_n 0, 1) := by decide +kernel
theorem dX9_stepIt_98 : decode cX9_stepIt 98 = .ok (.iload_n 3, 1) := by decide +kernel
theorem dX9_stepIt_99 : decode cX9_stepIt 99 = .ok (.iconst (-1), 1) := by decide +kernel
theorem dX9_stepIt_100 : decode cX9_stepIt 100 = .ok (.invokevirtual 427, 3) := by decide +kernel
theorem dX9_stepIt_103 : decode cX9_stepIt 103 = .ok (.ireturn, 1) := by decide +kernel
theorem dX9_stepIt_78 : decode cX9_stepIt 78 = .ok (.aload_n 0, 1) := by decide +kernel
theorem dX9_stepIt_79 : decode cX9_stepIt 79 = .ok (.getfield 89, 3) := by decide +kernel
theorem dX9_stepIt_82 : decode cX9_stepIt 82 = .ok (.iload 4, 2) := by decide +kernel
theorem dX9_stepIt_84 : decode cX9_stepIt 84 = .ok (.iaload, 1) := by decide +kernel
theorem dX9_stepIt_85 : decode cX9_stepIt 85 = .ok (.aload_n 0, 1) := by decide +kernel
theorem dX9_stepIt_86 : decode cX9_stepIt 86 = .ok (.getfield 424, 3) := by decide +kernel
theorem dX9_stepIt_89 : decode cX9_stepIt 89 = .ok (.isub, 1) := by decide +kernel
theorem dX9_stepIt_90 : decode cX9_stepIt 90 = .ok (.goto 4, 3) := by decide +kernel
theorem dX9_stepIt_44 : decode cX9_stepIt 44 = .ok (.aload_n 0, 1) := by decide +kernel
theorem dX9_stepIt_45 : decode cX9_stepIt 45 = .ok (.getfield 86, 3) := by decide +kernel
theorem dX9_stepIt_48 : decode cX9_stepIt 48 = .ok (.iload 4, 2) := by decide +kernel
theorem dX9_stepIt_50 : decode cX9_stepIt 50 = .ok (.iaload, 1) := by decide +kernel
theorem dX9_stepIt_51 : decode cX9_stepIt 51 = .ok (.aload_n 0, 1) := by decide +kernel
theorem dX9_stepIt_52 : decode cX9_stepIt 52 = .ok (.getfield 421, 3) := by decide +kernel
theorem dX9_stepIt_55 : decode cX9_stepIt 55 = .ok (.isub, 1) := by decide +kernel
theorem dX9_stepIt_56 : decode cX9_stepIt 56 = .ok (.goto 4, 3) := by decide +kernel
theorem dX9_tieIt_0 : decode cX9_tieIt 0 = .ok (.aload_n 0, 1) := by decide +kernel
theorem dX9_tieIt_1 : decode cX9_tieIt 1 = .ok (.iload_n 1, 1) := by decide +kernel
theorem dX9_tieIt_2 : decode cX9_tieIt 2 = .ok (.putfield 393, 3) := by decide +kernel
theorem dX9_tieIt_5 : decode cX9_tieIt 5 = .ok (.aload_n 0, 1) := by decide +kernel
theorem dX9_tieIt_6 : decode cX9_tieIt 6 = .ok (.iload_n 2, 1) := by decide +kernel
theorem dX9_tieIt_7 : decode cX9_tieIt 7 = .ok (.putfield 396, 3) := by decide +kernel
theorem dX9_tieIt_10 : decode cX9_tieIt 10 = .ok (.aload_n 0, 1) := by decide +kernel
theorem dX9_tieIt_11 : decode cX9_tieIt 11 = .ok (.iload_n 2, 1) := by decide +kernel
theorem dX9_tieIt_12 : decode cX9_tieIt 12 = .ok (.putfield 399, 3) := by decide +kernel
theorem dX9_tieIt_15 : decode cX9_tieIt 15 = .ok (.aload_n 0, 1) := by decide +kernel
theorem dX9_tieIt_16 : decode cX9_tieIt 16 = .ok (.aload_n 0, 1) := by decide +kernel
theorem dX9_tieIt_17 : decode cX9_tieIt 17 = .ok (.getfield 74, 3) := by decide +kernel
theorem dX9_tieIt_20 : decode cX9_tieIt 20 = .ok (.iconst 4, 1) := by decide +kernel
theorem dX9_tieIt_21 : decode cX9_tieIt 21 = .ok (.aload_n 0, 1) := by decide +kernel
theorem dX9_tieIt_22 : decode cX9_tieIt 22 = .ok (.getfield 291, 3) := by decide +kernel
theorem dX9_tieIt_25 : decode cX9_tieIt 25 = .ok (.imul, 1) := by decide +kernel
theorem dX9_tieIt_26 : decode cX9_tieIt 26 = .ok (.iload_n 3, 1) := by decide +kernel
theorem dX9_tieIt_27 : decode cX9_tieIt 27 = .ok (.iadd, 1) := by decide +kernel
theorem dX9_tieIt_28 : decode cX9_tieIt 28 = .ok (.iaload, 1) := by decide +kernel
theorem dX9_tieIt_29 : decode cX9_tieIt 29 = .ok (.putfield 370, 3) := by decide +kernel
theorem dX9_tieIt_32 : decode cX9_tieIt 32 = .ok (.aload_n 0, 1) := by decide +kernel
theorem dX9_tieIt_33 : decode cX9_tieIt 33 = .ok (.aload_n 0, 1) := by decide +kernel
theorem dX9_tieIt_34 : decode cX9_tieIt 34 = .ok (.getfield 77, 3) := by decide +kernel
theorem dX9_tieIt_37 : decode cX9_tieIt 37 = .ok (.iconst 4, 1) := by decide +kernel
theorem dX9_tieIt_38 : decode cX9_tieIt 38 = .ok (.aload_n 0, 1) := by decide +kernel
theorem dX9_tieIt_39 : decode cX9_tieIt 39 = .ok (.getfield 291, 3) := by decide +kernel
theorem dX9_tieIt_42 : decode cX9_tieIt 42 = .ok (.imul, 1) := by decide +kernel
theorem dX9_tieIt_43 : decode cX9_tieIt 43 = .ok (.iload_n 3, 1) := by decide +kernel
theorem dX9_tieIt_44 : decode cX9_tieIt 44 = .ok (.iadd, 1) := by decide +kernel
theorem dX9_tieIt_45 : decode cX9_tieIt 45 = .ok (.iaload, 1) := by decide +kernel
theorem dX9_tieIt_46 : decode cX9_tieIt 46 = .ok (.putfield 373, 3) := by decide +kernel
theorem dX9_tieIt_49 : decode cX9_tieIt 49 = .ok (.aload_n 0, 1) := by decide +kernel
theorem dX9_tieIt_50 : decode cX9_tieIt 50 = .ok (.getfield 122, 3) := by decide +kernel
theorem dX9_tieIt_53 : decode cX9_tieIt 53 = .ok (.iconst 0, 1) := by decide +kernel
theorem dX9_tieIt_54 : decode cX9_tieIt 54 = .ok (.iload 4, 2) := by decide +kernel
theorem dX9_tieIt_56 : decode cX9_tieIt 56 = .ok (.iastore, 1) := by decide +kernel
theorem dX9_tieIt_57 : decode cX9_tieIt 57 = .ok (.aload_n 0, 1) := by decide +kernel
theorem dX9_tieIt_58 : decode cX9_tieIt 58 = .ok (.getfield 122, 3) := by decide +kernel
theorem dX9_tieIt_61 : decode cX9_tieIt 61 = .ok (.iconst 1, 1) := by decide +kernel
theorem dX9_tieIt_62 : decode cX9_tieIt 62 = .ok (.iload 4, 2) := by decide +kernel
theorem dX9_tieIt_64 : decode cX9_tieIt 64 = .ok (.iastore, 1) := by decide +kernel
theorem dX9_tieIt_65 : decode cX9_tieIt 65 = .ok (.iconst 0, 1) := by decide +kernel
theorem dX9_tieIt_66 : decode cX9_tieIt 66 = .ok (.istore 5, 2) := by decide +kernel
theorem dX9_tieIt_68 : decode cX9_tieIt 68 = .ok (.iload 5, 2) := by decide +kernel
theorem dX9_tieIt_70 : decode cX9_tieIt 70 = .ok (.bipush 12, 2) := by decide +kernel
theorem dX9_tieIt_72 : decode cX9_tieIt 72 = .ok (.if_icmp .ge 35, 3) := by decide +kernel
theorem dX9_tieIt_107 : decode cX9_tieIt 107 = .ok (.return_, 1) := by decide +kernel
theorem dX9_tieIt_75 : decode cX9_tieIt 75 = .ok (.aload_n 0, 1) := by decide +kernel
theorem dX9_tieIt_76 : decode cX9_tieIt 76 = .ok (.getfield 119, 3) := by decide +kernel
theorem dX9_tieIt_79 : decode cX9_tieIt 79 = .ok (.iload 5, 2) := by decide +kernel
theorem dX9_tieIt_81 : decode cX9_tieIt 81 = .ok (.iload 5, 2) := by decide +kernel
theorem dX9_tieIt_83 : decode cX9_tieIt 83 = .ok (.iload_n 2, 1) := by decide +kernel
theorem dX9_tieIt_84 : decode cX9_tieIt 84 = .ok (.if_icmp .ge 15, 3) := by decide +kernel
theorem dX9_tieIt_99 : decode cX9_tieIt 99 = .ok (.iconst 0, 1) := by decide +kernel
theorem dX9_tieIt_100 : decode cX9_tieIt 100 = .ok (.iastore, 1) := by decide +kernel
theorem dX9_tieIt_101 : decode cX9_tieIt 101 = .ok (.iinc 5 1, 3) := by decide +kernel
theorem dX9_tieIt_104 : decode cX9_tieIt 104 = .ok (.goto (-36), 3) := by decide +kernel
theorem dX9_tieIt_87 : decode cX9_tieIt 87 = .ok (.aload_n 0, 1) := by decide +kernel
theorem dX9_tieIt_88 : decode cX9_tieIt 88 = .ok (.getfield 36, 3) := by decide +kernel
theorem dX9_tieIt_91 : decode cX9_tieIt 91 = .ok (.aload_n 0, 1) := by decide +kernel
theorem dX9_tieIt_92 : decode cX9_tieIt 92 = .ok (.getfield 291, 3) := by decide +kernel
theorem dX9_tieIt_95 : decode cX9_tieIt 95 = .ok (.iaload, 1) := by decide +kernel
theorem dX9_tieIt_96 : decode cX9_tieIt 96 = .ok (.goto 4, 3) := by decide +kernel
theorem dX9_tieKnot_0 : decode cX9_tieKnot 0 = .ok (.aload_n 0, 1) := by decide +kernel
theorem dX9_tieKnot_1 : decode cX9_tieKnot 1 = .ok (.aload_n 0, 1) := by decide +kernel
theorem dX9_tieKnot_2 : decode cX9_tieKnot 2 = .ok (.getfield 68, 3) := by decide +kernel
theorem dX9_tieKnot_5 : decode cX9_tieKnot 5 = .ok (.bipush 6, 2) := by decide +kernel
theorem dX9_tieKnot_7 : decode cX9_tieKnot 7 = .ok (.aload_n 0, 1) := by decide +kernel
theorem dX9_tieKnot_8 : decode cX9_tieKnot 8 = .ok (.getfield 291, 3) := by decide +kernel
theorem dX9_tieKnot_11 : decode cX9_tieKnot 11 = .ok (.imul, 1) := by decide +kernel
theorem dX9_tieKnot_12 : decode cX9_tieKnot 12 = .ok (.iload_n 1, 1) := by decide +kernel
theorem dX9_tieKnot_13 : decode cX9_tieKnot 13 = .ok (.iadd, 1) := by decide +kernel
theorem dX9_tieKnot_14 : decode cX9_tieKnot 14 = .ok (.iaload, 1) := by decide +kernel
theorem dX9_tieKnot_15 : decode cX9_tieKnot 15 = .ok (.aload_n 0, 1) := by decide +kernel
theorem dX9_tieKnot_16 : decode cX9_tieKnot 16 = .ok (.getfield 71, 3) := by decide +kernel
theorem dX9_tieKnot_19 : decode cX9_tieKnot 19 = .ok (.bipush 6, 2) := by decide +kernel
theorem dX9_tieKnot_21 : decode cX9_tieKnot 21 = .ok (.aload_n 0, 1) := by decide +kernel
theorem dX9_tieKnot_22 : decode cX9_tieKnot 22 = .ok (.getfield 291, 3) := by decide +kernel
theorem dX9_tieKnot_25 : decode cX9_tieKnot 25 = .ok (.imul, 1) := by decide +kernel
theorem dX9_tieKnot_26 : decode cX9_tieKnot 26 = .ok (.iload_n 1, 1) := by decide +kernel
theorem dX9_tieKnot_27 : decode cX9_tieKnot 27 = .ok (.iadd, 1) := by decide +kernel
theorem dX9_tieKnot_28 : decode cX9_tieKnot 28 = .ok (.iaload, 1) := by decide +kernel
theorem dX9_tieKnot_29 : decode cX9_tieKnot 29 = .ok (.iload_n 2, 1) := by decide +kernel
theorem dX9_tieKnot_30 : decode cX9_tieKnot 30 = .ok (.aload_n 0, 1) := by decide +kernel
theorem dX9_tieKnot_31 : decode cX9_tieKnot 31 = .ok (.getfield 80, 3) := by decide +kernel
theorem dX9_tieKnot_34 : decode cX9_tieKnot 34 = .ok (.iconst 4, 1) := by decide +kernel
theorem dX9_tieKnot_35 : decode cX9_tieKnot 35 = .ok (.aload_n 0, 1) := by decide +kernel
theorem dX9_tieKnot_36 : decode cX9_tieKnot 36 = .ok (.getfield 291, 3) := by decide +kernel
theorem dX9_tieKnot_39 : decode cX9_tieKnot 39 = .ok (.imul, 1) := by decide +kernel
theorem dX9_tieKnot_40 : decode cX9_tieKnot 40 = .ok (.iload_n 2, 1) := by decide +kernel
theorem dX9_tieKnot_41 : decode cX9_tieKnot 41 = .ok (.iadd, 1) := by decide +kernel
theorem dX9_tieKnot_42 : decode cX9_tieKnot 42 = .ok (.iaload, 1) := by decide +kernel
theorem dX9_tieKnot_43 : decode cX9_tieKnot 43 = .ok (.invokevirtual 402, 3) := by decide +kernel
theorem dX9_tieKnot_46 : decode cX9_tieKnot 46 = .ok (.return_, 1) := by decide +kernel
theorem dX9_draw_0 : decode cX9_draw 0 = .ok (.aload_n 0, 1) := by decide +kernel
theorem dX9_draw_1 : decode cX9_draw 1 = .ok (.aload_n 0, 1) := by decide +kernel
theorem dX9_draw_2 : decode cX9_draw 2 = .ok (.getfield 125, 3) := by decide +kernel
theorem dX9_draw_5 : decode cX9_draw 5 = .ok (.ldc_w 430, 3) := by decide +kernel
theorem dX9_draw_8 : decode cX9_draw 8 = .ok (.imul, 1) := by decide +kernel
theorem dX9_draw_9 : decode cX9_draw 9 = .ok (.sipush 12345, 3) := by decide +kernel
theorem dX9_draw_12 : decode cX9_draw 12 = .ok (.iadd, 1) := by decide +kernel
theorem dX9_draw_13 : decode cX9_draw 13 = .ok (.putfield 125, 3) := by decide +kernel
theorem dX9_draw_16 : decode cX9_draw 16 = .ok (.aload_n 0, 1) := by decide +kernel
theorem dX9_draw_17 : decode cX9_draw 17 = .ok (.getfield 125, 3) := by decide +kernel
theorem dX9_draw_20 : decode cX9_draw 20 = .ok (.bipush 16, 2) := by decide +kernel
theorem dX9_draw_22 : decode cX9_draw 22 = .ok (.iushr, 1) := by decide +kernel
theorem dX9_draw_23 : decode cX9_draw 23 = .ok (.iload_n 1, 1) := by decide +kernel
theorem dX9_draw_24 : decode cX9_draw 24 = .ok (.irem, 1) := by decide +kernel
theorem dX9_draw_25 : decode cX9_draw 25 = .ok (.ireturn, 1) := by decide +kernel
