theorem dX3_clear_0 : decode cX3_clear 0 = .ok (.aload_n 0, 1) := by decide +kernel
theorem dX3_clear_1 : decode cX3_clear 1 = .ok (.iconst 0, 1) := by decide +kernel
theorem dX3_clear_2 : decode cX3_clear 2 = .ok (.putfield 21, 3) := by decide +kernel
theorem dX3_clear_5 : decode cX3_clear 5 = .ok (.aload_n 0, 1) := by decide +kernel
theorem dX3_clear_6 : decode cX3_clear 6 = .ok (.iconst 0, 1) := by decide +kernel
theorem dX3_clear_7 : decode cX3_clear 7 = .ok (.putfield 25, 3) := by decide +kernel
theorem dX3_clear_10 : decode cX3_clear 10 = .ok (.aload_n 0, 1) := by decide +kernel
theorem dX3_clear_11 : decode cX3_clear 11 = .ok (.iconst 0, 1) := by decide +kernel
theorem dX3_clear_12 : decode cX3_clear 12 = .ok (.putfield 28, 3) := by decide +kernel
theorem dX3_clear_15 : decode cX3_clear 15 = .ok (.return_, 1) := by decide +kernel
theorem dX3_put_0 : decode cX3_put 0 = .ok (.aload_n 0, 1) := by decide +kernel
theorem dX3_put_1 : decode cX3_put 1 = .ok (.getfield 21, 3) := by decide +kernel
theorem dX3_put_4 : decode cX3_put 4 = .ok (.sipush 600, 3) := by decide +kernel
theorem dX3_put_7 : decode cX3_put 7 = .ok (.if_icmp .lt 5, 3) := by decide +kernel
theorem dX3_put_12 : decode cX3_put 12 = .ok (.aload_n 0, 1) := by decide +kernel
theorem dX3_put_13 : decode cX3_put 13 = .ok (.getfield 9, 3) := by decide +kernel
theorem dX3_put_16 : decode cX3_put 16 = .ok (.aload_n 0, 1) := by decide +kernel
theorem dX3_put_17 : decode cX3_put 17 = .ok (.getfield 21, 3) := by decide +kernel
theorem dX3_put_20 : decode cX3_put 20 = .ok (.iload_n 1, 1) := by decide +kernel
theorem dX3_put_21 : decode cX3_put 21 = .ok (.iastore, 1) := by decide +kernel
theorem dX3_put_22 : decode cX3_put 22 = .ok (.aload_n 0, 1) := by decide +kernel
theorem dX3_put_23 : decode cX3_put 23 = .ok (.dup, 1) := by decide +kernel
theorem dX3_put_24 : decode cX3_put 24 = .ok (.getfield 21, 3) := by decide +kernel
theorem dX3_put_27 : decode cX3_put 27 = .ok (.iconst 1, 1) := by decide +kernel
theorem dX3_put_28 : decode cX3_put 28 = .ok (.iadd, 1) := by decide +kernel
theorem dX3_put_29 : decode cX3_put 29 = .ok (.putfield 21, 3) := by decide +kernel
theorem dX3_put_32 : decode cX3_put 32 = .ok (.iconst 1, 1) := by decide +kernel
theorem dX3_put_33 : decode cX3_put 33 = .ok (.ireturn, 1) := by decide +kernel
theorem dX3_put_10 : decode cX3_put 10 = .ok (.iconst 0, 1) := by decide +kernel
theorem dX3_put_11 : decode cX3_put 11 = .ok (.ireturn, 1) := by decide +kernel
theorem dX3_endRow_0 : decode cX3_endRow 0 = .ok (.aload_n 0, 1) := by decide +kernel
theorem dX3_endRow_1 : decode cX3_endRow 1 = .ok (.getfield 25, 3) := by decide +kernel
theorem dX3_endRow_4 : decode cX3_endRow 4 = .ok (.aload_n 0, 1) := by decide +kernel
theorem dX3_endRow_5 : decode cX3_endRow 5 = .ok (.getfield 15, 3) := by decide +kernel
theorem dX3_endRow_8 : decode cX3_endRow 8 = .ok (.arraylength, 1) := by decide +kernel
theorem dX3_endRow_9 : decode cX3_endRow 9 = .ok (.if_icmp .lt 5, 3) := by decide +kernel
theorem dX3_endRow_14 : decode cX3_endRow 14 = .ok (.aload_n 0, 1) := by decide +kernel
theorem dX3_endRow_15 : decode cX3_endRow 15 = .ok (.getfield 15, 3) := by decide +kernel
theorem dX3_endRow_18 : decode cX3_endRow 18 = .ok (.aload_n 0, 1) := by decide +kernel
theorem dX3_endRow_19 : decode cX3_endRow 19 = .ok (.getfield 25, 3) := by decide +kernel
theorem dX3_endRow_22 : decode cX3_endRow 22 = .ok (.aload_n 0, 1) := by decide +kernel
theorem dX3_endRow_23 : decode cX3_endRow 23 = .ok (.getfield 21, 3) := by decide +kernel
theorem dX3_endRow_26 : decode cX3_endRow 26 = .ok (.iastore, 1) := by decide +kernel
theorem dX3_endRow_27 : decode cX3_endRow 27 = .ok (.aload_n 0, 1) := by decide +kernel
theorem dX3_endRow_28 : decode cX3_endRow 28 = .ok (.dup, 1) := by decide +kernel
theorem dX3_endRow_29 : decode cX3_endRow 29 = .ok (.getfield 25, 3) := by decide +kernel
theorem dX3_endRow_32 : decode cX3_endRow 32 = .ok (.iconst 1, 1) := by decide +kernel
theorem dX3_endRow_33 : decode cX3_endRow 33 = .ok (.iadd, 1) := by decide +kernel
theorem dX3_endRow_34 : decode cX3_endRow 34 = .ok (.putfield 25, 3) := by decide +kernel
theorem dX3_endRow_37 : decode cX3_endRow 37 = .ok (.iconst 1, 1) := by decide +kernel
theorem dX3_endRow_38 : decode cX3_endRow 38 = .ok (.ireturn, 1) := by decide +kernel
theorem dX3_endRow_12 : decode cX3_endRow 12 = .ok (.iconst 0, 1) := by decide +kernel
theorem dX3_endRow_13 : decode cX3_endRow 13 = .ok (.ireturn, 1) := by decide +kernel
theorem dX3_ask_0 : decode cX3_ask 0 = .ok (.iload_n 1, 1) := by decide +kernel
theorem dX3_ask_1 : decode cX3_ask 1 = .ok (.ifCond .lt 11, 3) := by decide +kernel
theorem dX3_ask_12 : decode cX3_ask 12 = .ok (.iconst 0, 1) := by decide +kernel
theorem dX3_ask_13 : decode cX3_ask 13 = .ok (.ireturn, 1) := by decide +kernel
theorem dX3_ask_4 : decode cX3_ask 4 = .ok (.iload_n 1, 1) := by decide +kernel
theorem dX3_ask_5 : decode cX3_ask 5 = .ok (.aload_n 0, 1) := by decide +kernel
theorem dX3_ask_6 : decode cX3_ask 6 = .ok (.getfield 25, 3) := by decide +kernel
theorem dX3_ask_9 : decode cX3_ask 9 = .ok (.if_icmp .lt 5, 3) := by decide +kernel
theorem dX3_ask_14 : decode cX3_ask 14 = .ok (.iconst 0, 1) := by decide +kernel
theorem dX3_ask_15 : decode cX3_ask 15 = .ok (.istore 4, 2) := by decide +kernel
theorem dX3_ask_17 : decode cX3_ask 17 = .ok (.iload_n 1, 1) := by decide +kernel
theorem dX3_ask_18 : decode cX3_ask 18 = .ok (.ifCond .ne 7, 3) := by decide +kernel
theorem dX3_ask_25 : decode cX3_ask 25 = .ok (.aload_n 0, 1) := by decide +kernel
theorem dX3_ask_26 : decode cX3_ask 26 = .ok (.getfield 15, 3) := by decide +kernel
theorem dX3_ask_29 : decode cX3_ask 29 = .ok (.iload_n 1, 1) := by decide +kernel
theorem dX3_ask_30 : decode cX3_ask 30 = .ok (.iconst 1, 1) := by decide +kernel
theorem dX3_ask_31 : decode cX3_ask 31 = .ok (.isub, 1) := by decide +kernel
theorem dX3_ask_32 : decode cX3_ask 32 = .ok (.iaload, 1) := by decide +kernel
theorem dX3_ask_33 : decode cX3_ask 33 = .ok (.istore 5, 2) := by decide +kernel
theorem dX3_ask_35 : decode cX3_ask 35 = .ok (.iload 5, 2) := by decide +kernel
theorem dX3_ask_37 : decode cX3_ask 37 = .ok (.aload_n 0, 1) := by decide +kernel
theorem dX3_ask_38 : decode cX3_ask 38 = .ok (.getfield 15, 3) := by decide +kernel
theorem dX3_ask_41 : decode cX3_ask 41 = .ok (.iload_n 1, 1) := by decide +kernel
theorem dX3_ask_42 : decode cX3_ask 42 = .ok (.iaload, 1) := by decide +kernel
theorem dX3_ask_43 : decode cX3_ask 43 = .ok (.if_icmp .ge 168, 3) := by decide +kernel
theorem dX3_ask_211 : decode cX3_ask 211 = .ok (.aload_n 0, 1) := by decide +kernel
theorem dX3_ask_212 : decode cX3_ask 212 = .ok (.getfield 18, 3) := by decide +kernel
theorem dX3_ask_215 : decode cX3_ask 215 = .ok (.iconst 0, 1) := by decide +kernel
theorem dX3_ask_216 : decode cX3_ask 216 = .ok (.iaload, 1) := by decide +kernel
theorem dX3_ask_217 : decode cX3_ask 217 = .ok (.ireturn, 1) := by decide +kernel
theorem dX3_ask_46 : decode cX3_ask 46 = .ok (.aload_n 0, 1) := by decide +kernel
theorem dX3_ask_47 : decode cX3_ask 47 = .ok (.getfield 9, 3) := by decide +kernel
theorem dX3_ask_50 : decode cX3_ask 50 = .ok (.iload 5, 2) := by decide +kernel
theorem dX3_ask_52 : decode cX3_ask 52 = .ok (.iaload, 1) := by decide +kernel
theorem dX3_ask_53 : decode cX3_ask 53 = .ok (.istore 6, 2) := by decide +kernel
theorem dX3_ask_55 : decode cX3_ask 55 = .ok (.iload 6, 2) := by decide +kernel
theorem dX3_ask_57 : decode cX3_ask 57 = .ok (.sipush 1000, 3) := by decide +kernel
theorem dX3_ask_60 : decode cX3_ask 60 = .ok (.if_icmp .lt 7, 3) := by decide +kernel
theorem dX3_ask_67 : decode cX3_ask 67 = .ok (.iconst 0, 1) := by decide +kernel
theorem dX3_ask_68 : decode cX3_ask 68 = .ok (.istore 7, 2) := by decide +kernel
theorem dX3_ask_70 : decode cX3_ask 70 = .ok (.iload 7, 2) := by decide +kernel
theorem dX3_ask_72 : decode cX3_ask 72 = .ok (.ifCond .ne 11, 3) := by decide +kernel
theorem dX3_ask_75 : decode cX3_ask 75 = .ok (.iload 6, 2) := by decide +kernel
theorem dX3_ask_77 : decode cX3_ask 77 = .ok (.invokestatic 45, 3) := by decide +kernel
theorem dX3_ask_80 : decode cX3_ask 80 = .ok (.ifCond .eq 44, 3) := by decide +kernel
theorem dX3_ask_83 : decode cX3_ask 83 = .ok (.iload 4, 2) := by decide +kernel
theorem dX3_ask_85 : decode cX3_ask 85 = .ok (.bipush 60, 2) := by decide +kernel
theorem dX3_ask_87 : decode cX3_ask 87 = .ok (.if_icmp .ge 118, 3) := by decide +kernel
theorem dX3_ask_205 : decode cX3_ask 205 = .ok (.iinc 5 1, 3) := by decide +kernel
theorem dX3_ask_208 : decode cX3_ask 208 = .ok (.goto (-173), 3) := by decide +kernel
theorem dX3_ask_90 : decode cX3_ask 90 = .ok (.aload_n 0, 1) := by decide +kernel
theorem dX3_ask_91 : decode cX3_ask 91 = .ok (.getfield 18, 3) := by decide +kernel
theorem dX3_ask_94 : decode cX3_ask 94 = .ok (.iload 4, 2) := by decide +kernel
theorem dX3_ask_96 : decode cX3_ask 96 = .ok (.iload 7, 2) := by decide +kernel
theorem dX3_ask_98 : decode cX3_ask 98 = .ok (.ifCond .eq 12, 3) := by decide +kernel
theorem dX3_ask_110 : decode cX3_ask 110 = .ok (.aload_n 2, 1) := by decide +kernel
theorem dX3_ask_111 : decode cX3_ask 111 = .ok (.iload 6, 2) := by decide +kernel
theorem dX3_ask_113 : decode cX3_ask 113 = .ok (.iload_n 3, 1) := by decide +kernel
theorem dX3_ask_114 : decode cX3_ask 114 = .ok (.invokevirtual 50, 3) := by decide +kernel
theorem dX3_ask_117 : decode cX3_ask 117 = .ok (.iastore, 1) := by decide +kernel
theorem dX3_ask_118 : decode cX3_ask 118 = .ok (.iinc 4 1, 3) := by decide +kernel
theorem dX3_ask_121 : decode cX3_ask 121 = .ok (.goto 84, 3) := by decide +kernel
theorem dX3_ask_124 : decode cX3_ask 124 = .ok (.iload 6, 2) := by decide +kernel
theorem dX3_ask_126 : decode cX3_ask 126 = .ok (.sipush 277, 3) := by decide +kernel
theorem dX3_ask_129 : decode cX3_ask 129 = .ok (.if_icmp .ne 37, 3) := by decide +kernel
theorem dX3_ask_166 : decode cX3_ask 166 = .ok (.iload 4, 2) := by decide +kernel
theorem dX3_ask_168 : decode cX3_ask 168 = .ok (.iconst 1, 1) := by decide +kernel
theorem dX3_ask_169 : decode cX3_ask 169 = .ok (.if_icmp .le 36, 3) := by decide +kernel
theorem dX3_ask_172 : decode cX3_ask 172 = .ok (.iinc 4 (-1), 3) := by decide +kernel
theorem dX3_ask_175 : decode cX3_ask 175 = .ok (.aload_n 0, 1) := by decide +kernel
theorem dX3_ask_176 : decode cX3_ask 176 = .ok (.getfield 18, 3) := by decide +kernel
theorem dX3_ask_179 : decode cX3_ask 179 = .ok (.iload 4, 2) := by decide +kernel
theorem dX3_ask_181 : decode cX3_ask 181 = .ok (.iconst 1, 1) := by decide +kernel
theorem dX3_ask_182 : decode cX3_ask 182 = .ok (.isub, 1) := by decide +kernel
theorem dX3_ask_183 : decode cX3_ask 183 = .ok (.iload 6, 2) := by decide +kernel
theorem dX3_ask_185 : decode cX3_ask 185 = .ok (.aload_n 0, 1) := by decide +kernel
theorem dX3_ask_186 : decode cX3_ask 186 = .ok (.getfield 18, 3) := by decide +kernel
theorem dX3_ask_189 : decode cX3_ask 189 = .ok (.iload 4, 2) := by decide +kernel
theorem dX3_ask_191 : decode cX3_ask 191 = .ok (.iconst 1, 1) := by decide +kernel
theorem dX3_ask_192 : decode cX3_ask 192 = .ok (.isub, 1) := by decide +kernel
theorem dX3_ask_193 : decode cX3_ask 193 = .ok (.iaload, 1) := by decide +kernel
theorem dX3_ask_194 : decode cX3_ask 194 = .ok (.aload_n 0, 1) := by decide +kernel
theorem dX3_ask_195 : decode cX3_ask 195 = .ok (.getfield 18, 3) := by decide +kernel
theorem dX3_ask_198 : decode cX3_ask 198 = .ok (.iload 4, 2) := by decide +kernel
theorem dX3_ask_200 : decode cX3_ask 200 = .ok (.iaload, 1) := by decide +kernel
theorem dX3_ask_201 : decode cX3_ask 201 = .ok (.invokestatic 56, 3) := by decide +kernel
theorem dX3_ask_204 : decode cX3_ask 204 = .ok (.iastore, 1) := by decide +kernel
theorem dX3_ask_132 : decode cX3_ask 132 = .ok (.iload 4, 2) := by decide +kernel
theorem dX3_ask_134 : decode cX3_ask 134 = .ok (.ifCond .le 71, 3) := by decide +kernel
theorem dX3_ask_137 : decode cX3_ask 137 = .ok (.aload_n 0, 1) := by decide +kernel
theorem dX3_ask_138 : decode cX3_ask 138 = .ok (.getfield 18, 3) := by decide +kernel
theorem dX3_ask_141 : decode cX3_ask 141 = .ok (.iload 4, 2) := by decide +kernel
theorem dX3_ask_143 : decode cX3_ask 143 = .ok (.iconst 1, 1) := by decide +kernel
theorem dX3_ask_144 : decode cX3_ask 144 = .ok (.isub, 1) := by decide +kernel
theorem dX3_ask_145 : decode cX3_ask 145 = .ok (.aload_n 0, 1) := by decide +kernel
theorem dX3_ask_146 : decode cX3_ask 146 = .ok (.getfield 18, 3) := by decide +kernel
theorem dX3_ask_149 : decode cX3_ask 149 = .ok (.iload 4, 2) := by decide +kernel
theorem dX3_ask_151 : decode cX3_ask 151 = .ok (.iconst 1, 1) := by decide +kernel
theorem dX3_ask_152 : decode cX3_ask 152 = .ok (.isub, 1) := by decide +kernel
theorem dX3_ask_153 : decode cX3_ask 153 = .ok (.iaload, 1) := by decide +kernel
theorem dX3_ask_154 : decode cX3_ask 154 = .ok (.ifCond .ne 7, 3) := by decide +kernel
theorem dX3_ask_161 : decode cX3_ask 161 = .ok (.iconst 0, 1) := by decide +kernel
theorem dX3_ask_162 : decode cX3_ask 162 = .ok (.iastore, 1) := by decide +kernel
theorem dX3_ask_163 : decode cX3_ask 163 = .ok (.goto 42, 3) := by decide +kernel
theorem dX3_ask_157 : decode cX3_ask 157 = .ok (.iconst 1, 1) := by decide +kernel
theorem dX3_ask_158 : decode cX3_ask 158 = .ok (.goto 4, 3) := by decide +kernel
theorem dX3_ask_63 : decode cX3_ask 63 = .ok (.iconst 1, 1) := by decide +kernel
theorem dX3_ask_64 : decode cX3_ask 64 = .ok (.goto 4, 3) := by decide +kernel
theorem dX3_ask_101 : decode cX3_ask 101 = .ok (.iload 6, 2) := by decide +kernel
theorem dX3_ask_103 : decode cX3_ask 103 = .ok (.sipush 1000, 3) := by decide +kernel
theorem dX3_ask_106 : decode cX3_ask 106 = .ok (.isub, 1) := by decide +kernel
theorem dX3_ask_107 : decode cX3_ask 107 = .ok (.goto 10, 3) := by decide +kernel
theorem dX3_ask_21 : decode cX3_ask 21 = .ok (.iconst 0, 1) := by decide +kernel
theorem dX3_ask_22 : decode cX3_ask 22 = .ok (.goto 11, 3) := by decide +kernel
theorem dX0_slipOf_0 : decode cX0_slipOf 0 = .ok (.iload_n 2, 1) := by decide +kernel
theorem dX0_slipOf_1 : decode cX0_slipOf 1 = .ok (.iload_n 3, 1) := by decide +kernel
theorem dX0_slipOf_2 : decode cX0_slipOf 2 = .ok (.if_icmp .gt 5, 3) := by decide +kernel
theorem dX0_slipOf_7 : decode cX0_slipOf 7 = .ok (.iload_n 2, 1) := by decide +kernel
theorem dX0_slipOf_8 : decode cX0_slipOf 8 = .ok (.i2l, 1) := by decide +kernel
theorem dX0_slipOf_9 : decode cX0_slipOf 9 = .ok (.iload_n 3, 1) := by decide +kernel
theorem dX0_slipOf_10 : decode cX0_slipOf 10 = .ok (.i2l, 1) := by decide +kernel
theorem dX0_slipOf_11 : decode cX0_slipOf 11 = .ok (.lsub, 1) := by decide +kernel
theorem dX0_slipOf_12 : decode cX0_slipOf 12 = .ok (.lstore 4, 2) := by decide +kernel
theorem dX0_slipOf_14 : decode cX0_slipOf 14 = .ok (.lload 4, 2) := by decide +kernel
theorem dX0_slipOf_16 : decode cX0_slipOf 16 = .ok (.ldc2_w 91, 3) := by decide +kernel
theorem dX0_slipOf_19 : decode cX0_slipOf 19 = .ok (.ladd, 1) := by decide +kernel
theorem dX0_slipOf_20 : decode cX0_slipOf 20 = .ok (.ldc2_w 93, 3) := by decide +kernel
theorem dX0_slipOf_23 : decode cX0_slipOf 23 = .ok (.ldiv, 1) := by decide +kernel
theorem dX0_slipOf_24 : decode cX0_slipOf 24 = .ok (.aload_n 0, 1) := by decide +kernel
theorem dX0_slipOf_25 : decode cX0_slipOf 25 = .ok (.getfield 11, 3) := by decide +kernel
theorem dX0_slipOf_28 : decode cX0_slipOf 28 = .ok (.iload_n 1, 1) := by decide +kernel
theorem dX0_slipOf_29 : decode cX0_slipOf 29 = .ok (.iaload, 1) := by decide +kernel
theorem dX0_slipOf_30 : decode cX0_slipOf 30 = .ok (.i2l, 1) := by decide +kernel
theorem dX0_slipOf_31 : decode cX0_slipOf 31 = .ok (.invokestatic 95, 3) := by decide +kernel
theorem dX0_slipOf_34 : decode cX0_slipOf 34 = .ok (.l2i, 1) := by decide +kernel
theorem dX0_slipOf_35 : decode cX0_slipOf 35 = .ok (.ireturn, 1) := by decide +kernel
theorem dX0_slipOf_5 : decode cX0_slipOf 5 = .ok (.iconst 0, 1) := by decide +kernel
theorem dX0_slipOf_6 : decode cX0_slipOf 6 = .ok (.ireturn, 1) := by decide +kernel
theorem dX0_slip_0 : decode cX0_slip 0 = .ok (.iconst 0, 1) := by decide +kernel
theorem dX0_slip_1 : decode cX0_slip 1 = .ok (.istore 4, 2) := by decide +kernel
theorem dX0_slip_3 : decode cX0_slip 3 = .ok (.iload_n 3, 1) := by decide +kernel
theorem dX0_slip_4 : decode cX0_slip 4 = .ok (.istore 5, 2) := by decide +kernel
theorem dX0_slip_6 : decode cX0_slip 6 = .ok (.aload_n 0, 1) := by decide +kernel
theorem dX0_slip_7 : decode cX0_slip 7 = .ok (.getfield 24, 3) := by decide +kernel
theorem dX0_slip_10 : decode cX0_slip 10 = .ok (.iconst 1, 1) := by decide +kernel
theorem dX0_slip_11 : decode cX0_slip 11 = .ok (.isub, 1) := by decide +kernel
theorem dX0_slip_12 : decode cX0_slip 12 = .ok (.istore 6, 2) := by decide +kernel
theorem dX0_slip_14 : decode cX0_slip 14 = .ok (.iload 6, 2) := by decide +kernel
theorem dX0_slip_16 : decode cX0_slip 16 = .ok (.ifCond .lt 81, 3) := by decide +kernel
theorem dX0_slip_97 : decode cX0_slip 97 = .ok (.aload_n 0, 1) := by decide +kernel
theorem dX0_slip_98 : decode cX0_slip 98 = .ok (.getfield 24, 3) := by decide +kernel
theorem dX0_slip_101 : decode cX0_slip 101 = .ok (.ifCond .le 30, 3) := by decide +kernel
theorem dX0_slip_131 : decode cX0_slip 131 = .ok (.aload_n 0, 1) := by decide +kernel
theorem dX0_slip_132 : decode cX0_slip 132 = .ok (.dup, 1) := by decide +kernel
theorem dX0_slip_133 : decode cX0_slip 133 = .ok (.getfield 30, 3) := by decide +kernel
theorem dX0_slip_136 : decode cX0_slip 136 = .ok (.iload 4, 2) := by decide +kernel
theorem dX0_slip_138 : decode cX0_slip 138 = .ok (.iadd, 1) := by decide +kernel
theorem dX0_slip_139 : decode cX0_slip 139 = .ok (.putfield 30, 3) := by decide +kernel
theorem dX0_slip_142 : decode cX0_slip 142 = .ok (.iload 4, 2) := by decide +kernel
theorem dX0_slip_144 : decode cX0_slip 144 = .ok (.ireturn, 1) := by decide +kernel
theorem dX0_slip_104 : decode cX0_slip 104 = .ok (.aload_n 0, 1) := by decide +kernel
theorem dX0_slip_105 : decode cX0_slip 105 = .ok (.getfield 11, 3) := by decide +kernel
theorem dX0_slip_108 : decode cX0_slip 108 = .ok (.aload_n 0, 1) := by decide +kernel
theorem dX0_slip_109 : decode cX0_slip 109 = .ok (.getfield 24, 3) := by decide +kernel
theorem dX0_slip_112 : decode cX0_slip 112 = .ok (.iconst 1, 1) := by decide +kernel
theorem dX0_slip_113 : decode cX0_slip 113 = .ok (.isub, 1) := by decide +kernel
theorem dX0_slip_114 : decode cX0_slip 114 = .ok (.iaload, 1) := by decide +kernel
theorem dX0_slip_115 : decode cX0_slip 115 = .ok (.ifCond .ne 16, 3) := by decide +kernel
theorem dX0_slip_118 : decode cX0_slip 118 = .ok (.aload_n 0, 1) := by decide +kernel
theorem dX0_slip_119 : decode cX0_slip 119 = .ok (.dup, 1) := by decide +kernel
theorem dX0_slip_120 : decode cX0_slip 120 = .ok (.getfield 24, 3) := by decide +kernel
theorem dX0_slip_123 : decode cX0_slip 123 = .ok (.iconst 1, 1) := by decide +kernel
theorem dX0_slip_124 : decode cX0_slip 124 = .ok (.isub, 1) := by decide +kernel
theorem dX0_slip_125 : decode cX0_slip 125 = .ok (.putfield 24, 3) := by decide +kernel
theorem dX0_slip_128 : decode cX0_slip 128 = .ok (.goto (-31), 3) := by decide +kernel
theorem dX0_slip_19 : decode cX0_slip 19 = .ok (.aload_n 0, 1) := by decide +kernel
theorem dX0_slip_20 : decode cX0_slip 20 = .ok (.iload 6, 2) := by decide +kernel
theorem dX0_slip_22 : decode cX0_slip 22 = .ok (.iload 5, 2) := by decide +kernel
theorem dX0_slip_24 : decode cX0_slip 24 = .ok (.aload_n 1, 1) := by decide +kernel
theorem dX0_slip_25 : decode cX0_slip 25 = .ok (.iconst 2, 1) := by decide +kernel
theorem dX0_slip_26 : decode cX0_slip 26 = .ok (.iload_n 2, 1) := by decide +kernel
theorem dX0_slip_27 : decode cX0_slip 27 = .ok (.imul, 1) := by decide +kernel
theorem dX0_slip_28 : decode cX0_slip 28 = .ok (.aload_n 0, 1) := by decide +kernel
theorem dX0_slip_29 : decode cX0_slip 29 = .ok (.iload 6, 2) := by decide +kernel
theorem dX0_slip_31 : decode cX0_slip 31 = .ok (.invokevirtual 77, 3) := by decide +kernel
theorem dX0_slip_34 : decode cX0_slip 34 = .ok (.invokevirtual 87, 3) := by decide +kernel
theorem dX0_slip_37 : decode cX0_slip 37 = .ok (.istore 7, 2) := by decide +kernel
theorem dX0_slip_39 : decode cX0_slip 39 = .ok (.iload 7, 2) := by decide +kernel
theorem dX0_slip_41 : decode cX0_slip 41 = .ok (.ifCond .ne 6, 3) := by decide +kernel
theorem dX0_slip_47 : decode cX0_slip 47 = .ok (.aload_n 0, 1) := by decide +kernel
theorem dX0_slip_48 : decode cX0_slip 48 = .ok (.getfield 11, 3) := by decide +kernel
theorem dX0_slip_51 : decode cX0_slip 51 = .ok (.iload 6, 2) := by decide +kernel
theorem dX0_slip_53 : decode cX0_slip 53 = .ok (.dup2, 1) := by decide +kernel
theorem dX0_slip_54 : decode cX0_slip 54 = .ok (.iaload, 1) := by decide +kernel
theorem dX0_slip_55 : decode cX0_slip 55 = .ok (.iload 7, 2) := by decide +kernel
theorem dX0_slip_57 : decode cX0_slip 57 = .ok (.isub, 1) := by decide +kernel
theorem dX0_slip_58 : decode cX0_slip 58 = .ok (.iastore, 1) := by decide +kernel
theorem dX0_slip_59 : decode cX0_slip 59 = .ok (.aload_n 0, 1) := by decide +kernel
theorem dX0_slip_60 : decode cX0_slip 60 = .ok (.getfield 17, 3) := by decide +kernel
theorem dX0_slip_63 : decode cX0_slip 63 = .ok (.aload_n 0, 1) := by decide +kernel
theorem dX0_slip_64 : decode cX0_slip 64 = .ok (.getfield 39, 3) := by decide +kernel
theorem dX0_slip_67 : decode cX0_slip 67 = .ok (.iload 6, 2) := by decide +kernel
theorem dX0_slip_69 : decode cX0_slip 69 = .ok (.ishr, 1) := by decide +kernel
theorem dX0_slip_70 : decode cX0_slip 70 = .ok (.iconst 1, 1) := by decide +kernel
theorem dX0_slip_71 : decode cX0_slip 71 = .ok (.iand, 1) := by decide +kernel
theorem dX0_slip_72 : decode cX0_slip 72 = .ok (.dup2, 1) := by decide +kernel
theorem dX0_slip_73 : decode cX0_slip 73 = .ok (.iaload, 1) := by decide +kernel
theorem dX0_slip_74 : decode cX0_slip 74 = .ok (.iload 7, 2) := by decide +kernel
theorem dX0_slip_76 : decode cX0_slip 76 = .ok (.iadd, 1) := by decide +kernel
theorem dX0_slip_77 : decode cX0_slip 77 = .ok (.iastore, 1) := by decide +kernel
theorem dX0_slip_78 : decode cX0_slip 78 = .ok (.iload 4, 2) := by decide +kernel
theorem dX0_slip_80 : decode cX0_slip 80 = .ok (.iload 7, 2) := by decide +kernel
theorem dX0_slip_82 : decode cX0_slip 82 = .ok (.iadd, 1) := by decide +kernel
theorem dX0_slip_83 : decode cX0_slip 83 = .ok (.istore 4, 2) := by decide +kernel
theorem dX0_slip_85 : decode cX0_slip 85 = .ok (.iconst 4, 1) := by decide +kernel
theorem dX0_slip_86 : decode cX0_slip 86 = .ok (.iload 7, 2) := by decide +kernel
theorem dX0_slip_88 : decode cX0_slip 88 = .ok (.imul, 1) := by decide +kernel
theorem dX0_slip_89 : decode cX0_slip 89 = .ok (.istore 5, 2) := by decide +kernel
theorem dX0_slip_91 : decode cX0_slip 91 = .ok (.iinc 6 (-1), 3) := by decide +kernel
theorem dX0_slip_94 : decode cX0_slip 94 = .ok (.goto (-80), 3) := by decide +kernel
theorem dX0_slip_44 : decode cX0_slip 44 = .ok (.goto 53, 3) := by decide +kernel
theorem dX0_goStep_0 : decode cX0_goStep 0 = .ok (.aload_n 0, 1) := by decide +kernel
theorem dX0_goStep_1 : decode cX0_goStep 1 = .ok (.getfield 24, 3) := by decide +kernel
theorem dX0_goStep_4 : decode cX0_goStep 4 = .ok (.ifCond .ne 5, 3) := by decide +kernel
theorem dX0_goStep_9 : decode cX0_goStep 9 = .ok (.aload_n 0, 1) := by decide +kernel
theorem dX0_goStep_10 : decode cX0_goStep 10 = .ok (.iload_n 3, 1) := by decide +kernel
theorem dX0_goStep_11 : decode cX0_goStep 11 = .ok (.putfield 54, 3) := by decide +kernel
theorem dX0_goStep_14 : decode cX0_goStep 14 = .ok (.aload_n 0, 1) := by decide +kernel
theorem dX0_goStep_15 : decode cX0_goStep 15 = .ok (.iload 4, 2) := by decide +kernel
theorem dX0_goStep_17 : decode cX0_goStep 17 = .ok (.putfield 57, 3) := by decide +kernel
theorem dX0_goStep_20 : decode cX0_goStep 20 = .ok (.aload_n 0, 1) := by decide +kernel
theorem dX0_goStep_21 : decode cX0_goStep 21 = .ok (.aload_n 1, 1) := by decide +kernel
theorem dX0_goStep_22 : decode cX0_goStep 22 = .ok (.iload_n 2, 1) := by decide +kernel
theorem dX0_goStep_23 : decode cX0_goStep 23 = .ok (.aload_n 1, 1) := by decide +kernel
theorem dX0_goStep_24 : decode cX0_goStep 24 = .ok (.iconst 2, 1) := by decide +kernel
theorem dX0_goStep_25 : decode cX0_goStep 25 = .ok (.iload_n 2, 1) := by decide +kernel
theorem dX0_goStep_26 : decode cX0_goStep 26 = .ok (.imul, 1) := by decide +kernel
theorem dX0_goStep_27 : decode cX0_goStep 27 = .ok (.iconst 1, 1) := by decide +kernel
theorem dX0_goStep_28 : decode cX0_goStep 28 = .ok (.iadd, 1) := by decide +kernel
theorem dX0_goStep_29 : decode cX0_goStep 29 = .ok (.aload_n 0, 1) := by decide +kernel
theorem dX0_goStep_30 : decode cX0_goStep 30 = .ok (.aload_n 0, 1) := by decide +kernel
theorem dX0_goStep_31 : decode cX0_goStep 31 = .ok (.getfield 24, 3) := by decide +kernel
theorem dX0_goStep_34 : decode cX0_goStep 34 = .ok (.iconst 1, 1) := by decide +kernel
theorem dX0_goStep_35 : decode cX0_goStep 35 = .ok (.isub, 1) := by decide +kernel
theorem dX0_goStep_36 : decode cX0_goStep 36 = .ok (.invokevirtual 77, 3) := by decide +kernel
theorem dX0_goStep_39 : decode cX0_goStep 39 = .ok (.invokevirtual 83, 3) := by decide +kernel
theorem dX0_goStep_42 : decode cX0_goStep 42 = .ok (.ireturn, 1) := by decide +kernel
theorem dX0_goStep_7 : decode cX0_goStep 7 = .ok (.iconst 0, 1) := by decide +kernel
theorem dX0_goStep_8 : decode cX0_goStep 8 = .ok (.ireturn, 1) := by decide +kernel
theorem dX0_pullByHand_0 : decode cX0_pullByHand 0 = .ok (.aload_n 0, 1) := by decide +kernel
theorem dX0_pullByHand_1 : decode cX0_pullByHand 1 = .ok (.iconst 0, 1) := by decide +kernel
theorem dX0_pullByHand_2 : decode cX0_pullByHand 2 = .ok (.putfield 54, 3) := by decide +kernel
theorem dX0_pullByHand_5 : decode cX0_pullByHand 5 = .ok (.aload_n 0, 1) := by decide +kernel
theorem dX0_pullByHand_6 : decode cX0_pullByHand 6 = .ok (.iconst 0, 1) := by decide +kernel
theorem dX0_pullByHand_7 : decode cX0_pullByHand 7 = .ok (.putfield 57, 3) := by decide +kernel
theorem dX0_pullByHand_10 : decode cX0_pullByHand 10 = .ok (.aload_n 0, 1) := by decide +kernel
theorem dX0_pullByHand_11 : decode cX0_pullByHand 11 = .ok (.aload_n 1, 1) := by decide +kernel
theorem dX0_pullByHand_12 : decode cX0_pullByHand 12 = .ok (.iconst 0, 1) := by decide +kernel
theorem dX0_pullByHand_13 : decode cX0_pullByHand 13 = .ok (.iload_n 2, 1) := by decide +kernel
theorem dX0_pullByHand_14 : decode cX0_pullByHand 14 = .ok (.invokevirtual 83, 3) := by decide +kernel
theorem dX0_pullByHand_17 : decode cX0_pullByHand 17 = .ok (.ireturn, 1) := by decide +kernel
theorem dX0_copyFrom_0 : decode cX0_copyFrom 0 = .ok (.iconst 0, 1) := by decide +kernel
theorem dX0_copyFrom_1 : decode cX0_copyFrom 1 = .ok (.istore_n 2, 1) := by decide +kernel
theorem dX0_copyFrom_2 : decode cX0_copyFrom 2 = .ok (.iload_n 2, 1) := by decide +kernel
theorem dX0_copyFrom_3 : decode cX0_copyFrom 3 = .ok (.bipush 12, 2) := by decide +kernel
theorem dX0_copyFrom_5 : decode cX0_copyFrom 5 = .ok (.if_icmp .ge 21, 3) := by decide +kernel
theorem dX0_copyFrom_26 : decode cX0_copyFrom 26 = .ok (.aload_n 0, 1) := by decide +kernel
theorem dX0_copyFrom_27 : decode cX0_copyFrom 27 = .ok (.getfield 17, 3) := by decide +kernel
theorem dX0_copyFrom_30 : decode cX0_copyFrom 30 = .ok (.iconst 0, 1) := by decide +kernel
theorem dX0_copyFrom_31 : decode cX0_copyFrom 31 = .ok (.aload_n 1, 1) := by decide +kernel
theorem dX0_copyFrom_32 : decode cX0_copyFrom 32 = .ok (.getfield 17, 3) := by decide +kernel
theorem dX0_copyFrom_35 : decode cX0_copyFrom 35 = .ok (.iconst 0, 1) := by decide +kernel
theorem dX0_copyFrom_36 : decode cX0_copyFrom 36 = .ok (.iaload, 1) := by decide +kernel
theorem dX0_copyFrom_37 : decode cX0_copyFrom 37 = .ok (.iastore, 1) := by decide +kernel
theorem dX0_copyFrom_38 : decode cX0_copyFrom 38 = .ok (.aload_n 0, 1) := by decide +kernel
theorem dX0_copyFrom_39 : decode cX0_copyFrom 39 = .ok (.getfield 17, 3) := by decide +kernel
theorem dX0_copyFrom_42 : decode cX0_copyFrom 42 = .ok (.iconst 1, 1) := by decide +kernel
theorem dX0_copyFrom_43 : decode cX0_copyFrom 43 = .ok (.aload_n 1, 1) := by decide +kernel
theorem dX0_copyFrom_44 : decode cX0_copyFrom 44 = .ok (.getfield 17, 3) := by decide +kernel
theorem dX0_copyFrom_47 : decode cX0_copyFrom 47 = .ok (.iconst 1, 1) := by decide +kernel
theorem dX0_copyFrom_48 : decode cX0_copyFrom 48 = .ok (.iaload, 1) := by decide +kernel
theorem dX0_copyFrom_49 : decode cX0_copyFrom 49 = .ok (.iastore, 1) := by decide +kernel
theorem dX0_copyFrom_50 : decode cX0_copyFrom 50 = .ok (.aload_n 0, 1) := by decide +kernel
theorem dX0_copyFrom_51 : decode cX0_copyFrom 51 = .ok (.aload_n 1, 1) := by decide +kernel
theorem dX0_copyFrom_52 : decode cX0_copyFrom 52 = .ok (.getfield 20, 3) := by decide +kernel
theorem dX0_copyFrom_55 : decode cX0_copyFrom 55 = .ok (.aload_n 1, 1) := by decide +kernel
theorem dX0_copyFrom_56 : decode cX0_copyFrom 56 = .ok (.getfield 39, 3) := by decide +kernel
theorem dX0_copyFrom_59 : decode cX0_copyFrom 59 = .ok (.invokevirtual 69, 3) := by decide +kernel
theorem dX0_copyFrom_62 : decode cX0_copyFrom 62 = .ok (.aload_n 0, 1) := by decide +kernel
theorem dX0_copyFrom_63 : decode cX0_copyFrom 63 = .ok (.aload_n 1, 1) := by decide +kernel
theorem dX0_copyFrom_64 : decode cX0_copyFrom 64 = .ok (.getfield 45, 3) := by decide +kernel
theorem dX0_copyFrom_67 : decode cX0_copyFrom 67 = .ok (.aload_n 1, 1) := by decide +kernel
theorem dX0_copyFrom_68 : decode cX0_copyFrom 68 = .ok (.getfield 48, 3) := by decide +kernel
theorem dX0_copyFrom_71 : decode cX0_copyFrom 71 = .ok (.aload_n 1, 1) := by decide +kernel
theorem dX0_copyFrom_72 : decode cX0_copyFrom 72 = .ok (.getfield 51, 3) := by decide +kernel
theorem dX0_copyFrom_75 : decode cX0_copyFrom 75 = .ok (.invokevirtual 73, 3) := by decide +kernel
theorem dX0_copyFrom_78 : decode cX0_copyFrom 78 = .ok (.aload_n 0, 1) := by decide +kernel
theorem dX0_copyFrom_79 : decode cX0_copyFrom 79 = .ok (.aload_n 1, 1) := by decide +kernel
theorem dX0_copyFrom_80 : decode cX0_copyFrom 80 = .ok (.getfield 24, 3) := by decide +kernel
theorem dX0_copyFrom_83 : decode cX0_copyFrom 83 = .ok (.putfield 24, 3) := by decide +kernel
theorem dX0_copyFrom_86 : decode cX0_copyFrom 86 = .ok (.aload_n 0, 1) := by decide +kernel
theorem dX0_copyFrom_87 : decode cX0_copyFrom 87 = .ok (.aload_n 1, 1) := by decide +kernel
theorem dX0_copyFrom_88 : decode cX0_copyFrom 88 = .ok (.getfield 27, 3) := by decide +kernel
theorem dX0_copyFrom_91 : decode cX0_copyFrom 91 = .ok (.putfield 27, 3) := by decide +kernel
theorem dX0_copyFrom_94 : decode cX0_copyFrom 94 = .ok (.aload_n 0, 1) := by decide +kernel
theorem dX0_copyFrom_95 : decode cX0_copyFrom 95 = .ok (.aload_n 1, 1) := by decide +kernel
theorem dX0_copyFrom_96 : decode cX0_copyFrom 96 = .ok (.getfield 30, 3) := by decide +kernel
theorem dX0_copyFrom_99 : decode cX0_copyFrom 99 = .ok (.putfield 30, 3) := by decide +kernel
theorem dX0_copyFrom_102 : decode cX0_copyFrom 102 = .ok (.aload_n 0, 1) := by decide +kernel
theorem dX0_copyFrom_103 : decode cX0_copyFrom 103 = .ok (.aload_n 1, 1) := by decide +kernel
theorem dX0_copyFrom_104 : decode cX0_copyFrom 104 = .ok (.getfield 33, 3) := by decide +kernel
theorem dX0_copyFrom_107 : decode cX0_copyFrom 107 = .ok (.putfield 33, 3) := by decide +kernel
theorem dX0_copyFrom_110 : decode cX0_copyFrom 110 = .ok (.aload_n 0, 1) := by decide +kernel
theorem dX0_copyFrom_111 : decode cX0_copyFrom 111 = .ok (.aload_n 1, 1) := by decide +kernel
theorem dX0_copyFrom_112 : decode cX0_copyFrom 112 = .ok (.getfield 36, 3) := by decide +kernel
theorem dX0_copyFrom_115 : decode cX0_copyFrom 115 = .ok (.putfield 36, 3) := by decide +kernel
theorem dX0_copyFrom_118 : decode cX0_copyFrom 118 = .ok (.return_, 1) := by decide +kernel
theorem dX0_copyFrom_8 : decode cX0_copyFrom 8 = .ok (.aload_n 0, 1) := by decide +kernel
theorem dX0_copyFrom_9 : decode cX0_copyFrom 9 = .ok (.getfield 11, 3) := by decide +kernel
theorem dX0_copyFrom_12 : decode cX0_copyFrom 12 = .ok (.iload_n 2, 1) := by decide +kernel
theorem dX0_copyFrom_13 : decode cX0_copyFrom 13 = .ok (.aload_n 1, 1) := by decide +kernel
theorem dX0_copyFrom_14 : decode cX0_copyFrom 14 = .ok (.getfield 11, 3) := by decide +kernel
theorem dX0_copyFrom_17 : decode cX0_copyFrom 17 = .ok (.iload_n 2, 1) := by decide +kernel
theorem dX0_copyFrom_18 : decode cX0_copyFrom 18 = .ok (.iaload, 1) := by decide +kernel
theorem dX0_copyFrom_19 : decode cX0_copyFrom 19 = .ok (.iastore, 1) := by decide +kernel
theorem dX0_copyFrom_20 : decode cX0_copyFrom 20 = .ok (.iinc 2 1, 3) := by decide +kernel
theorem dX0_copyFrom_23 : decode cX0_copyFrom 23 = .ok (.goto (-21), 3) := by decide +kernel
