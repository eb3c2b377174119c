theorem dX3_join_0 : decode cX3_join 0 = .ok (.iload_n 0, 1) := by decide +kernel
theorem dX3_join_1 : decode cX3_join 1 = .ok (.lookupswitch 146 #[(42, 83), (43, 75), (45, 79), (47, 87), (60, 99), (61, 121), (62, 110), (276, 132)], 75) := by decide +kernel
theorem dX3_join_84 : decode cX3_join 84 = .ok (.iload_n 1, 1) := by decide +kernel
theorem dX3_join_85 : decode cX3_join 85 = .ok (.iload_n 2, 1) := by decide +kernel
theorem dX3_join_86 : decode cX3_join 86 = .ok (.imul, 1) := by decide +kernel
theorem dX3_join_87 : decode cX3_join 87 = .ok (.ireturn, 1) := by decide +kernel
theorem dX3_join_76 : decode cX3_join 76 = .ok (.iload_n 1, 1) := by decide +kernel
theorem dX3_join_77 : decode cX3_join 77 = .ok (.iload_n 2, 1) := by decide +kernel
theorem dX3_join_78 : decode cX3_join 78 = .ok (.iadd, 1) := by decide +kernel
theorem dX3_join_79 : decode cX3_join 79 = .ok (.ireturn, 1) := by decide +kernel
theorem dX3_join_80 : decode cX3_join 80 = .ok (.iload_n 1, 1) := by decide +kernel
theorem dX3_join_81 : decode cX3_join 81 = .ok (.iload_n 2, 1) := by decide +kernel
theorem dX3_join_82 : decode cX3_join 82 = .ok (.isub, 1) := by decide +kernel
theorem dX3_join_83 : decode cX3_join 83 = .ok (.ireturn, 1) := by decide +kernel
theorem dX3_join_88 : decode cX3_join 88 = .ok (.iload_n 2, 1) := by decide +kernel
theorem dX3_join_89 : decode cX3_join 89 = .ok (.ifCond .ne 7, 3) := by decide +kernel
theorem dX3_join_96 : decode cX3_join 96 = .ok (.iload_n 1, 1) := by decide +kernel
theorem dX3_join_97 : decode cX3_join 97 = .ok (.iload_n 2, 1) := by decide +kernel
theorem dX3_join_98 : decode cX3_join 98 = .ok (.idiv, 1) := by decide +kernel
theorem dX3_join_99 : decode cX3_join 99 = .ok (.ireturn, 1) := by decide +kernel
theorem dX3_join_92 : decode cX3_join 92 = .ok (.iconst 0, 1) := by decide +kernel
theorem dX3_join_93 : decode cX3_join 93 = .ok (.goto 6, 3) := by decide +kernel
theorem dX3_join_100 : decode cX3_join 100 = .ok (.iload_n 1, 1) := by decide +kernel
theorem dX3_join_101 : decode cX3_join 101 = .ok (.iload_n 2, 1) := by decide +kernel
theorem dX3_join_102 : decode cX3_join 102 = .ok (.if_icmp .ge 7, 3) := by decide +kernel
theorem dX3_join_109 : decode cX3_join 109 = .ok (.iconst 0, 1) := by decide +kernel
theorem dX3_join_110 : decode cX3_join 110 = .ok (.ireturn, 1) := by decide +kernel
theorem dX3_join_105 : decode cX3_join 105 = .ok (.iconst 1, 1) := by decide +kernel
theorem dX3_join_106 : decode cX3_join 106 = .ok (.goto 4, 3) := by decide +kernel
theorem dX3_join_122 : decode cX3_join 122 = .ok (.iload_n 1, 1) := by decide +kernel
theorem dX3_join_123 : decode cX3_join 123 = .ok (.iload_n 2, 1) := by decide +kernel
theorem dX3_join_124 : decode cX3_join 124 = .ok (.if_icmp .ne 7, 3) := by decide +kernel
theorem dX3_join_131 : decode cX3_join 131 = .ok (.iconst 0, 1) := by decide +kernel
theorem dX3_join_132 : decode cX3_join 132 = .ok (.ireturn, 1) := by decide +kernel
theorem dX3_join_127 : decode cX3_join 127 = .ok (.iconst 1, 1) := by decide +kernel
theorem dX3_join_128 : decode cX3_join 128 = .ok (.goto 4, 3) := by decide +kernel
theorem dX3_join_111 : decode cX3_join 111 = .ok (.iload_n 1, 1) := by decide +kernel
theorem dX3_join_112 : decode cX3_join 112 = .ok (.iload_n 2, 1) := by decide +kernel
theorem dX3_join_113 : decode cX3_join 113 = .ok (.if_icmp .le 7, 3) := by decide +kernel
theorem dX3_join_120 : decode cX3_join 120 = .ok (.iconst 0, 1) := by decide +kernel
theorem dX3_join_121 : decode cX3_join 121 = .ok (.ireturn, 1) := by decide +kernel
theorem dX3_join_116 : decode cX3_join 116 = .ok (.iconst 1, 1) := by decide +kernel
theorem dX3_join_117 : decode cX3_join 117 = .ok (.goto 4, 3) := by decide +kernel
theorem dX3_join_133 : decode cX3_join 133 = .ok (.iload_n 1, 1) := by decide +kernel
theorem dX3_join_134 : decode cX3_join 134 = .ok (.ifCond .eq 11, 3) := by decide +kernel
theorem dX3_join_145 : decode cX3_join 145 = .ok (.iconst 0, 1) := by decide +kernel
theorem dX3_join_146 : decode cX3_join 146 = .ok (.ireturn, 1) := by decide +kernel
theorem dX3_join_137 : decode cX3_join 137 = .ok (.iload_n 2, 1) := by decide +kernel
theorem dX3_join_138 : decode cX3_join 138 = .ok (.ifCond .eq 7, 3) := by decide +kernel
theorem dX3_join_141 : decode cX3_join 141 = .ok (.iconst 1, 1) := by decide +kernel
theorem dX3_join_142 : decode cX3_join 142 = .ok (.goto 4, 3) := by decide +kernel
theorem dX3_join_147 : decode cX3_join 147 = .ok (.iload_n 1, 1) := by decide +kernel
theorem dX3_join_148 : decode cX3_join 148 = .ok (.ifCond .ne 7, 3) := by decide +kernel
theorem dX3_join_155 : decode cX3_join 155 = .ok (.iconst 1, 1) := by decide +kernel
theorem dX3_join_156 : decode cX3_join 156 = .ok (.goto 4, 3) := by decide +kernel
theorem dX3_join_160 : decode cX3_join 160 = .ok (.ireturn, 1) := by decide +kernel
theorem dX3_join_151 : decode cX3_join 151 = .ok (.iload_n 2, 1) := by decide +kernel
theorem dX3_join_152 : decode cX3_join 152 = .ok (.ifCond .eq 7, 3) := by decide +kernel
theorem dX3_join_159 : decode cX3_join 159 = .ok (.iconst 0, 1) := by decide +kernel
theorem dX6_isUnitWord_0 : decode cX6_isUnitWord 0 = .ok (.iload_n 0, 1) := by decide +kernel
theorem dX6_isUnitWord_1 : decode cX6_isUnitWord 1 = .ok (.sipush 261, 3) := by decide +kernel
theorem dX6_isUnitWord_4 : decode cX6_isUnitWord 4 = .ok (.if_icmp .lt 14, 3) := by decide +kernel
theorem dX6_isUnitWord_18 : decode cX6_isUnitWord 18 = .ok (.iconst 0, 1) := by decide +kernel
theorem dX6_isUnitWord_19 : decode cX6_isUnitWord 19 = .ok (.ireturn, 1) := by decide +kernel
theorem dX6_isUnitWord_7 : decode cX6_isUnitWord 7 = .ok (.iload_n 0, 1) := by decide +kernel
theorem dX6_isUnitWord_8 : decode cX6_isUnitWord 8 = .ok (.sipush 268, 3) := by decide +kernel
theorem dX6_isUnitWord_11 : decode cX6_isUnitWord 11 = .ok (.if_icmp .gt 7, 3) := by decide +kernel
theorem dX6_isUnitWord_14 : decode cX6_isUnitWord 14 = .ok (.iconst 1, 1) := by decide +kernel
theorem dX6_isUnitWord_15 : decode cX6_isUnitWord 15 = .ok (.goto 4, 3) := by decide +kernel
theorem dX0_tell_0 : decode cX0_tell 0 = .ok (.iload_n 1, 1) := by decide +kernel
theorem dX0_tell_1 : decode cX0_tell 1 = .ok (.tableswitch 90 261 267 #[43, 50, 59, 61, 66, 71, 85], 43) := by decide +kernel
theorem dX0_tell_44 : decode cX0_tell 44 = .ok (.aload_n 0, 1) := by decide +kernel
theorem dX0_tell_45 : decode cX0_tell 45 = .ok (.getfield 11, 3) := by decide +kernel
theorem dX0_tell_48 : decode cX0_tell 48 = .ok (.iload_n 2, 1) := by decide +kernel
theorem dX0_tell_49 : decode cX0_tell 49 = .ok (.iaload, 1) := by decide +kernel
theorem dX0_tell_50 : decode cX0_tell 50 = .ok (.ireturn, 1) := by decide +kernel
theorem dX0_tell_51 : decode cX0_tell 51 = .ok (.aload_n 0, 1) := by decide +kernel
theorem dX0_tell_52 : decode cX0_tell 52 = .ok (.getfield 42, 3) := by decide +kernel
theorem dX0_tell_55 : decode cX0_tell 55 = .ok (.iload_n 2, 1) := by decide +kernel
theorem dX0_tell_56 : decode cX0_tell 56 = .ok (.ishr, 1) := by decide +kernel
theorem dX0_tell_57 : decode cX0_tell 57 = .ok (.iconst 1, 1) := by decide +kernel
theorem dX0_tell_58 : decode cX0_tell 58 = .ok (.iand, 1) := by decide +kernel
theorem dX0_tell_59 : decode cX0_tell 59 = .ok (.ireturn, 1) := by decide +kernel
theorem dX0_tell_60 : decode cX0_tell 60 = .ok (.iload_n 2, 1) := by decide +kernel
theorem dX0_tell_61 : decode cX0_tell 61 = .ok (.ireturn, 1) := by decide +kernel
theorem dX0_tell_62 : decode cX0_tell 62 = .ok (.aload_n 0, 1) := by decide +kernel
theorem dX0_tell_63 : decode cX0_tell 63 = .ok (.getfield 45, 3) := by decide +kernel
theorem dX0_tell_66 : decode cX0_tell 66 = .ok (.ireturn, 1) := by decide +kernel
theorem dX0_tell_67 : decode cX0_tell 67 = .ok (.aload_n 0, 1) := by decide +kernel
theorem dX0_tell_68 : decode cX0_tell 68 = .ok (.getfield 48, 3) := by decide +kernel
theorem dX0_tell_71 : decode cX0_tell 71 = .ok (.ireturn, 1) := by decide +kernel
theorem dX0_tell_72 : decode cX0_tell 72 = .ok (.aload_n 0, 1) := by decide +kernel
theorem dX0_tell_73 : decode cX0_tell 73 = .ok (.getfield 17, 3) := by decide +kernel
theorem dX0_tell_76 : decode cX0_tell 76 = .ok (.aload_n 0, 1) := by decide +kernel
theorem dX0_tell_77 : decode cX0_tell 77 = .ok (.getfield 39, 3) := by decide +kernel
theorem dX0_tell_80 : decode cX0_tell 80 = .ok (.iload_n 2, 1) := by decide +kernel
theorem dX0_tell_81 : decode cX0_tell 81 = .ok (.ishr, 1) := by decide +kernel
theorem dX0_tell_82 : decode cX0_tell 82 = .ok (.iconst 1, 1) := by decide +kernel
theorem dX0_tell_83 : decode cX0_tell 83 = .ok (.iand, 1) := by decide +kernel
theorem dX0_tell_84 : decode cX0_tell 84 = .ok (.iaload, 1) := by decide +kernel
theorem dX0_tell_85 : decode cX0_tell 85 = .ok (.ireturn, 1) := by decide +kernel
theorem dX0_tell_86 : decode cX0_tell 86 = .ok (.aload_n 0, 1) := by decide +kernel
theorem dX0_tell_87 : decode cX0_tell 87 = .ok (.getfield 54, 3) := by decide +kernel
theorem dX0_tell_90 : decode cX0_tell 90 = .ok (.ireturn, 1) := by decide +kernel
theorem dX0_tell_91 : decode cX0_tell 91 = .ok (.aload_n 0, 1) := by decide +kernel
theorem dX0_tell_92 : decode cX0_tell 92 = .ok (.getfield 57, 3) := by decide +kernel
theorem dX0_tell_95 : decode cX0_tell 95 = .ok (.ireturn, 1) := by decide +kernel
theorem dX3_ask_0 : decode cX3_ask 0 = .ok (.iload_n 1, 1) := by decide +kernel
theorem dX3_ask_1 : decode cX3_ask 1 = .ok (.ifCond .lt 11, 3) := by decide +kernel
theorem dX3_ask_12 : decode cX3_ask 12 = .ok (.iconst 0, 1) := by decide +kernel
theorem dX3_ask_13 : decode cX3_ask 13 = .ok (.ireturn, 1) := by decide +kernel
theorem dX3_ask_4 : decode cX3_ask 4 = .ok (.iload_n 1, 1) := by decide +kernel
theorem dX3_ask_5 : decode cX3_ask 5 = .ok (.aload_n 0, 1) := by decide +kernel
theorem dX3_ask_6 : decode cX3_ask 6 = .ok (.getfield 25, 3) := by decide +kernel
theorem dX3_ask_9 : decode cX3_ask 9 = .ok (.if_icmp .lt 5, 3) := by decide +kernel
theorem dX3_ask_14 : decode cX3_ask 14 = .ok (.iconst 0, 1) := by decide +kernel
theorem dX3_ask_15 : decode cX3_ask 15 = .ok (.istore 4, 2) := by decide +kernel
theorem dX3_ask_17 : decode cX3_ask 17 = .ok (.iload_n 1, 1) := by decide +kernel
theorem dX3_ask_18 : decode cX3_ask 18 = .ok (.ifCond .ne 7, 3) := by decide +kernel
theorem dX3_ask_25 : decode cX3_ask 25 = .ok (.aload_n 0, 1) := by decide +kernel
theorem dX3_ask_26 : decode cX3_ask 26 = .ok (.getfield 15, 3) := by decide +kernel
theorem dX3_ask_29 : decode cX3_ask 29 = .ok (.iload_n 1, 1) := by decide +kernel
theorem dX3_ask_30 : decode cX3_ask 30 = .ok (.iconst 1, 1) := by decide +kernel
theorem dX3_ask_31 : decode cX3_ask 31 = .ok (.isub, 1) := by decide +kernel
theorem dX3_ask_32 : decode cX3_ask 32 = .ok (.iaload, 1) := by decide +kernel
theorem dX3_ask_33 : decode cX3_ask 33 = .ok (.istore 5, 2) := by decide +kernel
theorem dX3_ask_35 : decode cX3_ask 35 = .ok (.iload 5, 2) := by decide +kernel
theorem dX3_ask_37 : decode cX3_ask 37 = .ok (.aload_n 0, 1) := by decide +kernel
theorem dX3_ask_38 : decode cX3_ask 38 = .ok (.getfield 15, 3) := by decide +kernel
theorem dX3_ask_41 : decode cX3_ask 41 = .ok (.iload_n 1, 1) := by decide +kernel
theorem dX3_ask_42 : decode cX3_ask 42 = .ok (.iaload, 1) := by decide +kernel
theorem dX3_ask_43 : decode cX3_ask 43 = .ok (.if_icmp .ge 168, 3) := by decide +kernel
theorem dX3_ask_211 : decode cX3_ask 211 = .ok (.aload_n 0, 1) := by decide +kernel
theorem dX3_ask_212 : decode cX3_ask 212 = .ok (.getfield 18, 3) := by decide +kernel
theorem dX3_ask_215 : decode cX3_ask 215 = .ok (.iconst 0, 1) := by decide +kernel
theorem dX3_ask_216 : decode cX3_ask 216 = .ok (.iaload, 1) := by decide +kernel
theorem dX3_ask_217 : decode cX3_ask 217 = .ok (.ireturn, 1) := by decide +kernel
theorem dX3_ask_46 : decode cX3_ask 46 = .ok (.aload_n 0, 1) := by decide +kernel
theorem dX3_ask_47 : decode cX3_ask 47 = .ok (.getfield 9, 3) := by decide +kernel
theorem dX3_ask_50 : decode cX3_ask 50 = .ok (.iload 5, 2) := by decide +kernel
theorem dX3_ask_52 : decode cX3_ask 52 = .ok (.iaload, 1) := by decide +kernel
theorem dX3_ask_53 : decode cX3_ask 53 = .ok (.istore 6, 2) := by decide +kernel
theorem dX3_ask_55 : decode cX3_ask 55 = .ok (.iload 6, 2) := by decide +kernel
theorem dX3_ask_57 : decode cX3_ask 57 = .ok (.sipush 1000, 3) := by decide +kernel
theorem dX3_ask_60 : decode cX3_ask 60 = .ok (.if_icmp .lt 7, 3) := by decide +kernel
theorem dX3_ask_67 : decode cX3_ask 67 = .ok (.iconst 0, 1) := by decide +kernel
theorem dX3_ask_68 : decode cX3_ask 68 = .ok (.istore 7, 2) := by decide +kernel
theorem dX3_ask_70 : decode cX3_ask 70 = .ok (.iload 7, 2) := by decide +kernel
theorem dX3_ask_72 : decode cX3_ask 72 = .ok (.ifCond .ne 11, 3) := by decide +kernel
theorem dX3_ask_75 : decode cX3_ask 75 = .ok (.iload 6, 2) := by decide +kernel
theorem dX3_ask_77 : decode cX3_ask 77 = .ok (.invokestatic 45, 3) := by decide +kernel
theorem dX3_ask_80 : decode cX3_ask 80 = .ok (.ifCond .eq 44, 3) := by decide +kernel
theorem dX3_ask_124 : decode cX3_ask 124 = .ok (.iload 6, 2) := by decide +kernel
theorem dX3_ask_126 : decode cX3_ask 126 = .ok (.sipush 277, 3) := by decide +kernel
theorem dX3_ask_129 : decode cX3_ask 129 = .ok (.if_icmp .ne 37, 3) := by decide +kernel
theorem dX3_ask_166 : decode cX3_ask 166 = .ok (.iload 4, 2) := by decide +kernel
theorem dX3_ask_168 : decode cX3_ask 168 = .ok (.iconst 1, 1) := by decide +kernel
theorem dX3_ask_169 : decode cX3_ask 169 = .ok (.if_icmp .le 36, 3) := by decide +kernel
theorem dX3_ask_205 : decode cX3_ask 205 = .ok (.iinc 5 1, 3) := by decide +kernel
theorem dX3_ask_208 : decode cX3_ask 208 = .ok (.goto (-173), 3) := by decide +kernel
theorem dX3_ask_172 : decode cX3_ask 172 = .ok (.iinc 4 (-1), 3) := by decide +kernel
theorem dX3_ask_175 : decode cX3_ask 175 = .ok (.aload_n 0, 1) := by decide +kernel
theorem dX3_ask_176 : decode cX3_ask 176 = .ok (.getfield 18, 3) := by decide +kernel
theorem dX3_ask_179 : decode cX3_ask 179 = .ok (.iload 4, 2) := by decide +kernel
theorem dX3_ask_181 : decode cX3_ask 181 = .ok (.iconst 1, 1) := by decide +kernel
theorem dX3_ask_182 : decode cX3_ask 182 = .ok (.isub, 1) := by decide +kernel
theorem dX3_ask_183 : decode cX3_ask 183 = .ok (.iload 6, 2) := by decide +kernel
theorem dX3_ask_185 : decode cX3_ask 185 = .ok (.aload_n 0, 1) := by decide +kernel
theorem dX3_ask_186 : decode cX3_ask 186 = .ok (.getfield 18, 3) := by decide +kernel
theorem dX3_ask_189 : decode cX3_ask 189 = .ok (.iload 4, 2) := by decide +kernel
theorem dX3_ask_191 : decode cX3_ask 191 = .ok (.iconst 1, 1) := by decide +kernel
theorem dX3_ask_192 : decode cX3_ask 192 = .ok (.isub, 1) := by decide +kernel
theorem dX3_ask_193 : decode cX3_ask 193 = .ok (.iaload, 1) := by decide +kernel
theorem dX3_ask_194 : decode cX3_ask 194 = .ok (.aload_n 0, 1) := by decide +kernel
theorem dX3_ask_195 : decode cX3_ask 195 = .ok (.getfield 18, 3) := by decide +kernel
theorem dX3_ask_198 : decode cX3_ask 198 = .ok (.iload 4, 2) := by decide +kernel
theorem dX3_ask_200 : decode cX3_ask 200 = .ok (.iaload, 1) := by decide +kernel
theorem dX3_ask_201 : decode cX3_ask 201 = .ok (.invokestatic 56, 3) := by decide +kernel
theorem dX3_ask_204 : decode cX3_ask 204 = .ok (.iastore, 1) := by decide +kernel
theorem dX3_ask_132 : decode cX3_ask 132 = .ok (.iload 4, 2) := by decide +kernel
theorem dX3_ask_134 : decode cX3_ask 134 = .ok (.ifCond .le 71, 3) := by decide +kernel
theorem dX3_ask_137 : decode cX3_ask 137 = .ok (.aload_n 0, 1) := by decide +kernel
theorem dX3_ask_138 : decode cX3_ask 138 = .ok (.getfield 18, 3) := by decide +kernel
theorem dX3_ask_141 : decode cX3_ask 141 = .ok (.iload 4, 2) := by decide +kernel
theorem dX3_ask_143 : decode cX3_ask 143 = .ok (.iconst 1, 1) := by decide +kernel
theorem dX3_ask_144 : decode cX3_ask 144 = .ok (.isub, 1) := by decide +kernel
theorem dX3_ask_145 : decode cX3_ask 145 = .ok (.aload_n 0, 1) := by decide +kernel
theorem dX3_ask_146 : decode cX3_ask 146 = .ok (.getfield 18, 3) := by decide +kernel
theorem dX3_ask_149 : decode cX3_ask 149 = .ok (.iload 4, 2) := by decide +kernel
theorem dX3_ask_151 : decode cX3_ask 151 = .ok (.iconst 1, 1) := by decide +kernel
theorem dX3_ask_152 : decode cX3_ask 152 = .ok (.isub, 1) := by decide +kernel
theorem dX3_ask_153 : decode cX3_ask 153 = .ok (.iaload, 1) := by decide +kernel
theorem dX3_ask_154 : decode cX3_ask 154 = .ok (.ifCond .ne 7, 3) := by decide +kernel
theorem dX3_ask_161 : decode cX3_ask 161 = .ok (.iconst 0, 1) := by decide +kernel
theorem dX3_ask_162 : decode cX3_ask 162 = .ok (.iastore, 1) := by decide +kernel
theorem dX3_ask_163 : decode cX3_ask 163 = .ok (.goto 42, 3) := by decide +kernel
theorem dX3_ask_157 : decode cX3_ask 157 = .ok (.iconst 1, 1) := by decide +kernel
theorem dX3_ask_158 : decode cX3_ask 158 = .ok (.goto 4, 3) := by decide +kernel
theorem dX3_ask_83 : decode cX3_ask 83 = .ok (.iload 4, 2) := by decide +kernel
theorem dX3_ask_85 : decode cX3_ask 85 = .ok (.bipush 60, 2) := by decide +kernel
theorem dX3_ask_87 : decode cX3_ask 87 = .ok (.if_icmp .ge 118, 3) := by decide +kernel
theorem dX3_ask_90 : decode cX3_ask 90 = .ok (.aload_n 0, 1) := by decide +kernel
theorem dX3_ask_91 : decode cX3_ask 91 = .ok (.getfield 18, 3) := by decide +kernel
theorem dX3_ask_94 : decode cX3_ask 94 = .ok (.iload 4, 2) := by decide +kernel
theorem dX3_ask_96 : decode cX3_ask 96 = .ok (.iload 7, 2) := by decide +kernel
theorem dX3_ask_98 : decode cX3_ask 98 = .ok (.ifCond .eq 12, 3) := by decide +kernel
theorem dX3_ask_110 : decode cX3_ask 110 = .ok (.aload_n 2, 1) := by decide +kernel
theorem dX3_ask_111 : decode cX3_ask 111 = .ok (.iload 6, 2) := by decide +kernel
theorem dX3_ask_113 : decode cX3_ask 113 = .ok (.iload_n 3, 1) := by decide +kernel
theorem dX3_ask_114 : decode cX3_ask 114 = .ok (.invokevirtual 50, 3) := by decide +kernel
theorem dX3_ask_117 : decode cX3_ask 117 = .ok (.iastore, 1) := by decide +kernel
theorem dX3_ask_118 : decode cX3_ask 118 = .ok (.iinc 4 1, 3) := by decide +kernel
theorem dX3_ask_121 : decode cX3_ask 121 = .ok (.goto 84, 3) := by decide +kernel
theorem dX3_ask_63 : decode cX3_ask 63 = .ok (.iconst 1, 1) := by decide +kernel
theorem dX3_ask_64 : decode cX3_ask 64 = .ok (.goto 4, 3) := by decide +kernel
theorem dX3_ask_101 : decode cX3_ask 101 = .ok (.iload 6, 2) := by decide +kernel
theorem dX3_ask_103 : decode cX3_ask 103 = .ok (.sipush 1000, 3) := by decide +kernel
theorem dX3_ask_106 : decode cX3_ask 106 = .ok (.isub, 1) := by decide +kernel
theorem dX3_ask_107 : decode cX3_ask 107 = .ok (.goto 10, 3) := by decide +kernel
theorem dX3_ask_21 : decode cX3_ask 21 = .ok (.iconst 0, 1) := by decide +kernel
theorem dX3_ask_22 : decode cX3_ask 22 = .ok (.goto 11, 3) := by decide +kernel
