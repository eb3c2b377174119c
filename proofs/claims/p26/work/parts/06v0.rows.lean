theorem dX9_readLine_0 : decode cX9_readLine 0 = .ok (.aload_n 0, 1) := by decide +kernel
theorem dX9_readLine_1 : decode cX9_readLine 1 = .ok (.getfield 237, 3) := by decide +kernel
theorem dX9_readLine_4 : decode cX9_readLine 4 = .ok (.lstore_n 1, 1) := by decide +kernel
theorem dX9_readLine_5 : decode cX9_readLine 5 = .ok (.aload_n 0, 1) := by decide +kernel
theorem dX9_readLine_6 : decode cX9_readLine 6 = .ok (.getfield 230, 3) := by decide +kernel
theorem dX9_readLine_9 : decode cX9_readLine 9 = .ok (.iconst 3, 1) := by decide +kernel
theorem dX9_readLine_10 : decode cX9_readLine 10 = .ok (.if_icmp .ne 10, 3) := by decide +kernel
theorem dX9_readLine_20 : decode cX9_readLine 20 = .ok (.aload_n 0, 1) := by decide +kernel
theorem dX9_readLine_21 : decode cX9_readLine 21 = .ok (.invokevirtual 265, 3) := by decide +kernel
theorem dX9_readLine_24 : decode cX9_readLine 24 = .ok (.aload_n 0, 1) := by decide +kernel
theorem dX9_readLine_25 : decode cX9_readLine 25 = .ok (.invokevirtual 258, 3) := by decide +kernel
theorem dX9_readLine_28 : decode cX9_readLine 28 = .ok (.ifCond .ne 4, 3) := by decide +kernel
theorem dX9_readLine_31 : decode cX9_readLine 31 = .ok (.return_, 1) := by decide +kernel
theorem dX9_readLine_13 : decode cX9_readLine 13 = .ok (.aload_n 0, 1) := by decide +kernel
theorem dX9_readLine_14 : decode cX9_readLine 14 = .ok (.invokevirtual 304, 3) := by decide +kernel
theorem dX9_readLine_17 : decode cX9_readLine 17 = .ok (.ifCond .eq 7, 3) := by decide +kernel
theorem dX9_readLine_32 : decode cX9_readLine 32 = .ok (.aload_n 0, 1) := by decide +kernel
theorem dX9_readLine_33 : decode cX9_readLine 33 = .ok (.invokevirtual 262, 3) := by decide +kernel
theorem dX9_readLine_213 : decode cX9_readLine 213 = .ok (.aload_n 0, 1) := by decide +kernel
theorem dX9_readLine_214 : decode cX9_readLine 214 = .ok (.aload_n 0, 1) := by decide +kernel
theorem dX9_readLine_215 : decode cX9_readLine 215 = .ok (.bipush 59, 2) := by decide +kernel
theorem dX9_readLine_217 : decode cX9_readLine 217 = .ok (.invokevirtual 322, 3) := by decide +kernel
theorem dX9_readLine_220 : decode cX9_readLine 220 = .ok (.invokevirtual 271, 3) := by decide +kernel
theorem dX9_readLine_223 : decode cX9_readLine 223 = .ok (.return_, 1) := by decide +kernel
theorem dX9_readLine_189 : decode cX9_readLine 189 = .ok (.lload_n 1, 1) := by decide +kernel
theorem dX9_readLine_190 : decode cX9_readLine 190 = .ok (.ldc2_w 196, 3) := by decide +kernel
theorem dX9_readLine_193 : decode cX9_readLine 193 = .ok (.lcmp, 1) := by decide +kernel
theorem dX9_readLine_194 : decode cX9_readLine 194 = .ok (.ifCond .ne 7, 3) := by decide +kernel
theorem dX9_readLine_201 : decode cX9_readLine 201 = .ok (.lload_n 1, 1) := by decide +kernel
theorem dX9_readLine_202 : decode cX9_readLine 202 = .ok (.ldc2_w 202, 3) := by decide +kernel
theorem dX9_readLine_205 : decode cX9_readLine 205 = .ok (.lcmp, 1) := by decide +kernel
theorem dX9_readLine_206 : decode cX9_readLine 206 = .ok (.ifCond .ne 7, 3) := by decide +kernel
theorem dX9_readLine_209 : decode cX9_readLine 209 = .ok (.aload_n 0, 1) := by decide +kernel
theorem dX9_readLine_210 : decode cX9_readLine 210 = .ok (.invokevirtual 319, 3) := by decide +kernel
theorem dX9_readLine_197 : decode cX9_readLine 197 = .ok (.aload_n 0, 1) := by decide +kernel
theorem dX9_readLine_198 : decode cX9_readLine 198 = .ok (.invokevirtual 316, 3) := by decide +kernel
theorem dX9_readLine_121 : decode cX9_readLine 121 = .ok (.aload_n 0, 1) := by decide +kernel
theorem dX9_readLine_122 : decode cX9_readLine 122 = .ok (.getfield 45, 3) := by decide +kernel
theorem dX9_readLine_125 : decode cX9_readLine 125 = .ok (.aload_n 0, 1) := by decide +kernel
theorem dX9_readLine_126 : decode cX9_readLine 126 = .ok (.getfield 279, 3) := by decide +kernel
theorem dX9_readLine_129 : decode cX9_readLine 129 = .ok (.aload_n 0, 1) := by decide +kernel
theorem dX9_readLine_130 : decode cX9_readLine 130 = .ok (.getfield 45, 3) := by decide +kernel
theorem dX9_readLine_133 : decode cX9_readLine 133 = .ok (.aload_n 0, 1) := by decide +kernel
theorem dX9_readLine_134 : decode cX9_readLine 134 = .ok (.getfield 279, 3) := by decide +kernel
theorem dX9_readLine_137 : decode cX9_readLine 137 = .ok (.baload, 1) := by decide +kernel
theorem dX9_readLine_138 : decode cX9_readLine 138 = .ok (.ifCond .ne 11, 3) := by decide +kernel
theorem dX9_readLine_149 : decode cX9_readLine 149 = .ok (.iconst 1, 1) := by decide +kernel
theorem dX9_readLine_150 : decode cX9_readLine 150 = .ok (.goto 4, 3) := by decide +kernel
theorem dX9_readLine_154 : decode cX9_readLine 154 = .ok (.bastore, 1) := by decide +kernel
theorem dX9_readLine_155 : decode cX9_readLine 155 = .ok (.aload_n 0, 1) := by decide +kernel
theorem dX9_readLine_156 : decode cX9_readLine 156 = .ok (.getfield 49, 3) := by decide +kernel
theorem dX9_readLine_159 : decode cX9_readLine 159 = .ok (.aload_n 0, 1) := by decide +kernel
theorem dX9_readLine_160 : decode cX9_readLine 160 = .ok (.getfield 279, 3) := by decide +kernel
theorem dX9_readLine_163 : decode cX9_readLine 163 = .ok (.aload_n 0, 1) := by decide +kernel
theorem dX9_readLine_164 : decode cX9_readLine 164 = .ok (.getfield 49, 3) := by decide +kernel
theorem dX9_readLine_167 : decode cX9_readLine 167 = .ok (.aload_n 0, 1) := by decide +kernel
theorem dX9_readLine_168 : decode cX9_readLine 168 = .ok (.getfield 279, 3) := by decide +kernel
theorem dX9_readLine_171 : decode cX9_readLine 171 = .ok (.baload, 1) := by decide +kernel
theorem dX9_readLine_172 : decode cX9_readLine 172 = .ok (.ifCond .ne 11, 3) := by decide +kernel
theorem dX9_readLine_183 : decode cX9_readLine 183 = .ok (.iconst 1, 1) := by decide +kernel
theorem dX9_readLine_184 : decode cX9_readLine 184 = .ok (.goto 4, 3) := by decide +kernel
theorem dX9_readLine_188 : decode cX9_readLine 188 = .ok (.bastore, 1) := by decide +kernel
theorem dX9_readLine_175 : decode cX9_readLine 175 = .ok (.lload_n 1, 1) := by decide +kernel
theorem dX9_readLine_176 : decode cX9_readLine 176 = .ok (.ldc2_w 194, 3) := by decide +kernel
theorem dX9_readLine_179 : decode cX9_readLine 179 = .ok (.lcmp, 1) := by decide +kernel
theorem dX9_readLine_180 : decode cX9_readLine 180 = .ok (.ifCond .ne 7, 3) := by decide +kernel
theorem dX9_readLine_187 : decode cX9_readLine 187 = .ok (.iconst 0, 1) := by decide +kernel
theorem dX9_readLine_141 : decode cX9_readLine 141 = .ok (.lload_n 1, 1) := by decide +kernel
theorem dX9_readLine_142 : decode cX9_readLine 142 = .ok (.ldc2_w 192, 3) := by decide +kernel
theorem dX9_readLine_145 : decode cX9_readLine 145 = .ok (.lcmp, 1) := by decide +kernel
theorem dX9_readLine_146 : decode cX9_readLine 146 = .ok (.ifCond .ne 7, 3) := by decide +kernel
theorem dX9_readLine_153 : decode cX9_readLine 153 = .ok (.iconst 0, 1) := by decide +kernel
theorem dX9_readLine_36 : decode cX9_readLine 36 = .ok (.lload_n 1, 1) := by decide +kernel
theorem dX9_readLine_37 : decode cX9_readLine 37 = .ok (.ldc2_w 176, 3) := by decide +kernel
theorem dX9_readLine_40 : decode cX9_readLine 40 = .ok (.lcmp, 1) := by decide +kernel
theorem dX9_readLine_41 : decode cX9_readLine 41 = .ok (.ifCond .ne 7, 3) := by decide +kernel
theorem dX9_readLine_48 : decode cX9_readLine 48 = .ok (.lload_n 1, 1) := by decide +kernel
theorem dX9_readLine_49 : decode cX9_readLine 49 = .ok (.ldc2_w 182, 3) := by decide +kernel
theorem dX9_readLine_52 : decode cX9_readLine 52 = .ok (.lcmp, 1) := by decide +kernel
theorem dX9_readLine_53 : decode cX9_readLine 53 = .ok (.ifCond .ne 7, 3) := by decide +kernel
theorem dX9_readLine_60 : decode cX9_readLine 60 = .ok (.lload_n 1, 1) := by decide +kernel
theorem dX9_readLine_61 : decode cX9_readLine 61 = .ok (.ldc2_w 190, 3) := by decide +kernel
theorem dX9_readLine_64 : decode cX9_readLine 64 = .ok (.lcmp, 1) := by decide +kernel
theorem dX9_readLine_65 : decode cX9_readLine 65 = .ok (.ifCond .ne 7, 3) := by decide +kernel
theorem dX9_readLine_72 : decode cX9_readLine 72 = .ok (.lload_n 1, 1) := by decide +kernel
theorem dX9_readLine_73 : decode cX9_readLine 73 = .ok (.ldc2_w 192, 3) := by decide +kernel
theorem dX9_readLine_76 : decode cX9_readLine 76 = .ok (.lcmp, 1) := by decide +kernel
theorem dX9_readLine_77 : decode cX9_readLine 77 = .ok (.ifCond .ne 20, 3) := by decide +kernel
theorem dX9_readLine_97 : decode cX9_readLine 97 = .ok (.lload_n 1, 1) := by decide +kernel
theorem dX9_readLine_98 : decode cX9_readLine 98 = .ok (.ldc2_w 194, 3) := by decide +kernel
theorem dX9_readLine_101 : decode cX9_readLine 101 = .ok (.lcmp, 1) := by decide +kernel
theorem dX9_readLine_102 : decode cX9_readLine 102 = .ok (.ifCond .ne 19, 3) := by decide +kernel
theorem dX9_readLine_105 : decode cX9_readLine 105 = .ok (.aload_n 0, 1) := by decide +kernel
theorem dX9_readLine_106 : decode cX9_readLine 106 = .ok (.getfield 39, 3) := by decide +kernel
theorem dX9_readLine_109 : decode cX9_readLine 109 = .ok (.aload_n 0, 1) := by decide +kernel
theorem dX9_readLine_110 : decode cX9_readLine 110 = .ok (.getfield 279, 3) := by decide +kernel
theorem dX9_readLine_113 : decode cX9_readLine 113 = .ok (.aload_n 0, 1) := by decide +kernel
theorem dX9_readLine_114 : decode cX9_readLine 114 = .ok (.iconst 0, 1) := by decide +kernel
theorem dX9_readLine_115 : decode cX9_readLine 115 = .ok (.bipush 49, 2) := by decide +kernel
theorem dX9_readLine_117 : decode cX9_readLine 117 = .ok (.invokevirtual 275, 3) := by decide +kernel
theorem dX9_readLine_120 : decode cX9_readLine 120 = .ok (.iastore, 1) := by decide +kernel
theorem dX9_readLine_80 : decode cX9_readLine 80 = .ok (.aload_n 0, 1) := by decide +kernel
theorem dX9_readLine_81 : decode cX9_readLine 81 = .ok (.getfield 36, 3) := by decide +kernel
theorem dX9_readLine_84 : decode cX9_readLine 84 = .ok (.aload_n 0, 1) := by decide +kernel
theorem dX9_readLine_85 : decode cX9_readLine 85 = .ok (.getfield 279, 3) := by decide +kernel
theorem dX9_readLine_88 : decode cX9_readLine 88 = .ok (.aload_n 0, 1) := by decide +kernel
theorem dX9_readLine_89 : decode cX9_readLine 89 = .ok (.iconst 1, 1) := by decide +kernel
theorem dX9_readLine_90 : decode cX9_readLine 90 = .ok (.sipush 999, 3) := by decide +kernel
theorem dX9_readLine_93 : decode cX9_readLine 93 = .ok (.invokevirtual 275, 3) := by decide +kernel
theorem dX9_readLine_96 : decode cX9_readLine 96 = .ok (.iastore, 1) := by decide +kernel
theorem dX9_readLine_68 : decode cX9_readLine 68 = .ok (.aload_n 0, 1) := by decide +kernel
theorem dX9_readLine_69 : decode cX9_readLine 69 = .ok (.invokevirtual 313, 3) := by decide +kernel
theorem dX9_readLine_56 : decode cX9_readLine 56 = .ok (.aload_n 0, 1) := by decide +kernel
theorem dX9_readLine_57 : decode cX9_readLine 57 = .ok (.invokevirtual 310, 3) := by decide +kernel
theorem dX9_readLine_44 : decode cX9_readLine 44 = .ok (.aload_n 0, 1) := by decide +kernel
theorem dX9_readLine_45 : decode cX9_readLine 45 = .ok (.invokevirtual 307, 3) := by decide +kernel
theorem dX9_shop_0 : decode cX9_shop 0 = .ok (.aload_n 0, 1) := by decide +kernel
theorem dX9_shop_1 : decode cX9_shop 1 = .ok (.iconst 0, 1) := by decide +kernel
theorem dX9_shop_2 : decode cX9_shop 2 = .ok (.putfield 173, 3) := by decide +kernel
theorem dX9_shop_5 : decode cX9_shop 5 = .ok (.aload_n 0, 1) := by decide +kernel
theorem dX9_shop_6 : decode cX9_shop 6 = .ok (.iconst (-1), 1) := by decide +kernel
theorem dX9_shop_7 : decode cX9_shop 7 = .ok (.putfield 16, 3) := by decide +kernel
theorem dX9_shop_10 : decode cX9_shop 10 = .ok (.aload_n 0, 1) := by decide +kernel
theorem dX9_shop_11 : decode cX9_shop 11 = .ok (.aload_n 0, 1) := by decide +kernel
theorem dX9_shop_12 : decode cX9_shop 12 = .ok (.getfield 288, 3) := by decide +kernel
theorem dX9_shop_15 : decode cX9_shop 15 = .ok (.putfield 170, 3) := by decide +kernel
theorem dX9_shop_18 : decode cX9_shop 18 = .ok (.iconst 0, 1) := by decide +kernel
theorem dX9_shop_19 : decode cX9_shop 19 = .ok (.istore_n 1, 1) := by decide +kernel
theorem dX9_shop_20 : decode cX9_shop 20 = .ok (.iload_n 1, 1) := by decide +kernel
theorem dX9_shop_21 : decode cX9_shop 21 = .ok (.aload_n 0, 1) := by decide +kernel
theorem dX9_shop_22 : decode cX9_shop 22 = .ok (.getfield 170, 3) := by decide +kernel
theorem dX9_shop_25 : decode cX9_shop 25 = .ok (.if_icmp .ge 21, 3) := by decide +kernel
theorem dX9_shop_46 : decode cX9_shop 46 = .ok (.aload_n 0, 1) := by decide +kernel
theorem dX9_shop_47 : decode cX9_shop 47 = .ok (.iconst 0, 1) := by decide +kernel
theorem dX9_shop_48 : decode cX9_shop 48 = .ok (.putfield 288, 3) := by decide +kernel
theorem dX9_shop_51 : decode cX9_shop 51 = .ok (.aload_n 0, 1) := by decide +kernel
theorem dX9_shop_52 : decode cX9_shop 52 = .ok (.iconst 0, 1) := by decide +kernel
theorem dX9_shop_53 : decode cX9_shop 53 = .ok (.putfield 220, 3) := by decide +kernel
theorem dX9_shop_56 : decode cX9_shop 56 = .ok (.aload_n 0, 1) := by decide +kernel
theorem dX9_shop_57 : decode cX9_shop 57 = .ok (.iconst 1, 1) := by decide +kernel
theorem dX9_shop_58 : decode cX9_shop 58 = .ok (.aload_n 0, 1) := by decide +kernel
theorem dX9_shop_59 : decode cX9_shop 59 = .ok (.getfield 291, 3) := by decide +kernel
theorem dX9_shop_62 : decode cX9_shop 62 = .ok (.isub, 1) := by decide +kernel
theorem dX9_shop_63 : decode cX9_shop 63 = .ok (.putfield 279, 3) := by decide +kernel
theorem dX9_shop_66 : decode cX9_shop 66 = .ok (.aload_n 0, 1) := by decide +kernel
theorem dX9_shop_67 : decode cX9_shop 67 = .ok (.invokevirtual 167, 3) := by decide +kernel
theorem dX9_shop_70 : decode cX9_shop 70 = .ok (.aload_n 0, 1) := by decide +kernel
theorem dX9_shop_71 : decode cX9_shop 71 = .ok (.invokevirtual 262, 3) := by decide +kernel
theorem dX9_shop_74 : decode cX9_shop 74 = .ok (.aload_n 0, 1) := by decide +kernel
theorem dX9_shop_75 : decode cX9_shop 75 = .ok (.invokevirtual 258, 3) := by decide +kernel
theorem dX9_shop_78 : decode cX9_shop 78 = .ok (.ifCond .eq 17, 3) := by decide +kernel
theorem dX9_shop_81 : decode cX9_shop 81 = .ok (.aload_n 0, 1) := by decide +kernel
theorem dX9_shop_82 : decode cX9_shop 82 = .ok (.getfield 230, 3) := by decide +kernel
theorem dX9_shop_85 : decode cX9_shop 85 = .ok (.ifCond .eq 10, 3) := by decide +kernel
theorem dX9_shop_95 : decode cX9_shop 95 = .ok (.aload_n 0, 1) := by decide +kernel
theorem dX9_shop_96 : decode cX9_shop 96 = .ok (.invokevirtual 258, 3) := by decide +kernel
theorem dX9_shop_99 : decode cX9_shop 99 = .ok (.ifCond .ne 5, 3) := by decide +kernel
theorem dX9_shop_104 : decode cX9_shop 104 = .ok (.aload_n 0, 1) := by decide +kernel
theorem dX9_shop_105 : decode cX9_shop 105 = .ok (.getfield 42, 3) := by decide +kernel
theorem dX9_shop_108 : decode cX9_shop 108 = .ok (.aload_n 0, 1) := by decide +kernel
theorem dX9_shop_109 : decode cX9_shop 109 = .ok (.getfield 279, 3) := by decide +kernel
theorem dX9_shop_112 : decode cX9_shop 112 = .ok (.aload_n 0, 1) := by decide +kernel
theorem dX9_shop_113 : decode cX9_shop 113 = .ok (.getfield 285, 3) := by decide +kernel
theorem dX9_shop_116 : decode cX9_shop 116 = .ok (.iastore, 1) := by decide +kernel
theorem dX9_shop_117 : decode cX9_shop 117 = .ok (.aload_n 0, 1) := by decide +kernel
theorem dX9_shop_118 : decode cX9_shop 118 = .ok (.aload_n 0, 1) := by decide +kernel
theorem dX9_shop_119 : decode cX9_shop 119 = .ok (.getfield 279, 3) := by decide +kernel
theorem dX9_shop_122 : decode cX9_shop 122 = .ok (.putfield 291, 3) := by decide +kernel
theorem dX9_shop_125 : decode cX9_shop 125 = .ok (.aload_n 0, 1) := by decide +kernel
theorem dX9_shop_126 : decode cX9_shop 126 = .ok (.iconst 0, 1) := by decide +kernel
theorem dX9_shop_127 : decode cX9_shop 127 = .ok (.putfield 297, 3) := by decide +kernel
theorem dX9_shop_130 : decode cX9_shop 130 = .ok (.aload_n 0, 1) := by decide +kernel
theorem dX9_shop_131 : decode cX9_shop 131 = .ok (.iconst 0, 1) := by decide +kernel
theorem dX9_shop_132 : decode cX9_shop 132 = .ok (.putfield 301, 3) := by decide +kernel
theorem dX9_shop_135 : decode cX9_shop 135 = .ok (.iconst 0, 1) := by decide +kernel
theorem dX9_shop_136 : decode cX9_shop 136 = .ok (.istore_n 1, 1) := by decide +kernel
theorem dX9_shop_137 : decode cX9_shop 137 = .ok (.iload_n 1, 1) := by decide +kernel
theorem dX9_shop_138 : decode cX9_shop 138 = .ok (.iconst 3, 1) := by decide +kernel
theorem dX9_shop_139 : decode cX9_shop 139 = .ok (.if_icmp .ge 16, 3) := by decide +kernel
theorem dX9_shop_142 : decode cX9_shop 142 = .ok (.aload_n 0, 1) := by decide +kernel
theorem dX9_shop_143 : decode cX9_shop 143 = .ok (.getfield 158, 3) := by decide +kernel
theorem dX9_shop_146 : decode cX9_shop 146 = .ok (.iload_n 1, 1) := by decide +kernel
theorem dX9_shop_147 : decode cX9_shop 147 = .ok (.iconst (-1), 1) := by decide +kernel
theorem dX9_shop_148 : decode cX9_shop 148 = .ok (.iastore, 1) := by decide +kernel
theorem dX9_shop_149 : decode cX9_shop 149 = .ok (.iinc 1 1, 3) := by decide +kernel
theorem dX9_shop_152 : decode cX9_shop 152 = .ok (.goto (-15), 3) := by decide +kernel
theorem dX9_shop_155 : decode cX9_shop 155 = .ok (.aload_n 0, 1) := by decide +kernel
theorem dX9_shop_156 : decode cX9_shop 156 = .ok (.getfield 20, 3) := by decide +kernel
theorem dX9_shop_159 : decode cX9_shop 159 = .ok (.aload_n 0, 1) := by decide +kernel
theorem dX9_shop_160 : decode cX9_shop 160 = .ok (.getfield 291, 3) := by decide +kernel
theorem dX9_shop_163 : decode cX9_shop 163 = .ok (.iaload, 1) := by decide +kernel
theorem dX9_shop_164 : decode cX9_shop 164 = .ok (.ireturn, 1) := by decide +kernel
theorem dX9_shop_88 : decode cX9_shop 88 = .ok (.aload_n 0, 1) := by decide +kernel
theorem dX9_shop_89 : decode cX9_shop 89 = .ok (.invokevirtual 294, 3) := by decide +kernel
theorem dX9_shop_92 : decode cX9_shop 92 = .ok (.goto (-18), 3) := by decide +kernel
theorem dX9_shop_102 : decode cX9_shop 102 = .ok (.iconst (-1), 1) := by decide +kernel
theorem dX9_shop_103 : decode cX9_shop 103 = .ok (.ireturn, 1) := by decide +kernel
theorem dX9_shop_28 : decode cX9_shop 28 = .ok (.aload_n 0, 1) := by decide +kernel
theorem dX9_shop_29 : decode cX9_shop 29 = .ok (.getfield 13, 3) := by decide +kernel
theorem dX9_shop_32 : decode cX9_shop 32 = .ok (.iload_n 1, 1) := by decide +kernel
theorem dX9_shop_33 : decode cX9_shop 33 = .ok (.aload_n 0, 1) := by decide +kernel
theorem dX9_shop_34 : decode cX9_shop 34 = .ok (.getfield 7, 3) := by decide +kernel
theorem dX9_shop_37 : decode cX9_shop 37 = .ok (.iload_n 1, 1) := by decide +kernel
theorem dX9_shop_38 : decode cX9_shop 38 = .ok (.baload, 1) := by decide +kernel
theorem dX9_shop_39 : decode cX9_shop 39 = .ok (.bastore, 1) := by decide +kernel
theorem dX9_shop_40 : decode cX9_shop 40 = .ok (.iinc 1 1, 3) := by decide +kernel
theorem dX9_shop_43 : decode cX9_shop 43 = .ok (.goto (-23), 3) := by decide +kernel
