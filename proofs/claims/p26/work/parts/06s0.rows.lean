theorem dX9_pushE_0 : decode cX9_pushE 0 = .ok (.aload_n 0, 1) := by decide +kernel
theorem dX9_pushE_1 : decode cX9_pushE 1 = .ok (.getfield 110, 3) := by decide +kernel
theorem dX9_pushE_4 : decode cX9_pushE 4 = .ok (.aload_n 0, 1) := by decide +kernel
theorem dX9_pushE_5 : decode cX9_pushE 5 = .ok (.getfield 339, 3) := by decide +kernel
theorem dX9_pushE_8 : decode cX9_pushE 8 = .ok (.iload_n 1, 1) := by decide +kernel
theorem dX9_pushE_9 : decode cX9_pushE 9 = .ok (.iastore, 1) := by decide +kernel
theorem dX9_pushE_10 : decode cX9_pushE 10 = .ok (.aload_n 0, 1) := by decide +kernel
theorem dX9_pushE_11 : decode cX9_pushE 11 = .ok (.getfield 113, 3) := by decide +kernel
theorem dX9_pushE_14 : decode cX9_pushE 14 = .ok (.aload_n 0, 1) := by decide +kernel
theorem dX9_pushE_15 : decode cX9_pushE 15 = .ok (.getfield 339, 3) := by decide +kernel
theorem dX9_pushE_18 : decode cX9_pushE 18 = .ok (.iload_n 2, 1) := by decide +kernel
theorem dX9_pushE_19 : decode cX9_pushE 19 = .ok (.iastore, 1) := by decide +kernel
theorem dX9_pushE_20 : decode cX9_pushE 20 = .ok (.aload_n 0, 1) := by decide +kernel
theorem dX9_pushE_21 : decode cX9_pushE 21 = .ok (.dup, 1) := by decide +kernel
theorem dX9_pushE_22 : decode cX9_pushE 22 = .ok (.getfield 339, 3) := by decide +kernel
theorem dX9_pushE_25 : decode cX9_pushE 25 = .ok (.iconst 1, 1) := by decide +kernel
theorem dX9_pushE_26 : decode cX9_pushE 26 = .ok (.iadd, 1) := by decide +kernel
theorem dX9_pushE_27 : decode cX9_pushE 27 = .ok (.putfield 339, 3) := by decide +kernel
theorem dX9_pushE_30 : decode cX9_pushE 30 = .ok (.return_, 1) := by decide +kernel
theorem dX9_emit_0 : decode cX9_emit 0 = .ok (.aload_n 0, 1) := by decide +kernel
theorem dX9_emit_1 : decode cX9_emit 1 = .ok (.getfield 104, 3) := by decide +kernel
theorem dX9_emit_4 : decode cX9_emit 4 = .ok (.aload_n 0, 1) := by decide +kernel
theorem dX9_emit_5 : decode cX9_emit 5 = .ok (.getfield 282, 3) := by decide +kernel
theorem dX9_emit_8 : decode cX9_emit 8 = .ok (.iload_n 1, 1) := by decide +kernel
theorem dX9_emit_9 : decode cX9_emit 9 = .ok (.iastore, 1) := by decide +kernel
theorem dX9_emit_10 : decode cX9_emit 10 = .ok (.aload_n 0, 1) := by decide +kernel
theorem dX9_emit_11 : decode cX9_emit 11 = .ok (.getfield 107, 3) := by decide +kernel
theorem dX9_emit_14 : decode cX9_emit 14 = .ok (.aload_n 0, 1) := by decide +kernel
theorem dX9_emit_15 : decode cX9_emit 15 = .ok (.getfield 282, 3) := by decide +kernel
theorem dX9_emit_18 : decode cX9_emit 18 = .ok (.iload_n 2, 1) := by decide +kernel
theorem dX9_emit_19 : decode cX9_emit 19 = .ok (.iastore, 1) := by decide +kernel
theorem dX9_emit_20 : decode cX9_emit 20 = .ok (.aload_n 0, 1) := by decide +kernel
theorem dX9_emit_21 : decode cX9_emit 21 = .ok (.dup, 1) := by decide +kernel
theorem dX9_emit_22 : decode cX9_emit 22 = .ok (.getfield 282, 3) := by decide +kernel
theorem dX9_emit_25 : decode cX9_emit 25 = .ok (.iconst 1, 1) := by decide +kernel
theorem dX9_emit_26 : decode cX9_emit 26 = .ok (.iadd, 1) := by decide +kernel
theorem dX9_emit_27 : decode cX9_emit 27 = .ok (.putfield 282, 3) := by decide +kernel
theorem dX9_emit_30 : decode cX9_emit 30 = .ok (.return_, 1) := by decide +kernel
theorem dX9_wordHere_0 : decode cX9_wordHere 0 = .ok (.aload_n 0, 1) := by decide +kernel
theorem dX9_wordHere_1 : decode cX9_wordHere 1 = .ok (.ldc2_w 192, 3) := by decide +kernel
theorem dX9_wordHere_4 : decode cX9_wordHere 4 = .ok (.invokevirtual 268, 3) := by decide +kernel
theorem dX9_wordHere_7 : decode cX9_wordHere 7 = .ok (.ifCond .eq 6, 3) := by decide +kernel
theorem dX9_wordHere_10 : decode cX9_wordHere 10 = .ok (.bipush 97, 2) := by decide +kernel
theorem dX9_wordHere_12 : decode cX9_wordHere 12 = .ok (.ireturn, 1) := by decide +kernel
theorem dX9_wordHere_13 : decode cX9_wordHere 13 = .ok (.aload_n 0, 1) := by decide +kernel
theorem dX9_wordHere_14 : decode cX9_wordHere 14 = .ok (.ldc2_w 212, 3) := by decide +kernel
theorem dX9_wordHere_17 : decode cX9_wordHere 17 = .ok (.invokevirtual 268, 3) := by decide +kernel
theorem dX9_wordHere_20 : decode cX9_wordHere 20 = .ok (.ifCond .eq 6, 3) := by decide +kernel
theorem dX9_wordHere_23 : decode cX9_wordHere 23 = .ok (.bipush 98, 2) := by decide +kernel
theorem dX9_wordHere_25 : decode cX9_wordHere 25 = .ok (.ireturn, 1) := by decide +kernel
theorem dX9_wordHere_26 : decode cX9_wordHere 26 = .ok (.aload_n 0, 1) := by decide +kernel
theorem dX9_wordHere_27 : decode cX9_wordHere 27 = .ok (.ldc2_w 214, 3) := by decide +kernel
theorem dX9_wordHere_30 : decode cX9_wordHere 30 = .ok (.invokevirtual 268, 3) := by decide +kernel
theorem dX9_wordHere_33 : decode cX9_wordHere 33 = .ok (.ifCond .eq 6, 3) := by decide +kernel
theorem dX9_wordHere_36 : decode cX9_wordHere 36 = .ok (.bipush 99, 2) := by decide +kernel
theorem dX9_wordHere_38 : decode cX9_wordHere 38 = .ok (.ireturn, 1) := by decide +kernel
theorem dX9_wordHere_39 : decode cX9_wordHere 39 = .ok (.aload_n 0, 1) := by decide +kernel
theorem dX9_wordHere_40 : decode cX9_wordHere 40 = .ok (.ldc2_w 184, 3) := by decide +kernel
theorem dX9_wordHere_43 : decode cX9_wordHere 43 = .ok (.invokevirtual 268, 3) := by decide +kernel
theorem dX9_wordHere_46 : decode cX9_wordHere 46 = .ok (.ifCond .eq 6, 3) := by decide +kernel
theorem dX9_wordHere_49 : decode cX9_wordHere 49 = .ok (.bipush 100, 2) := by decide +kernel
theorem dX9_wordHere_51 : decode cX9_wordHere 51 = .ok (.ireturn, 1) := by decide +kernel
theorem dX9_wordHere_52 : decode cX9_wordHere 52 = .ok (.aload_n 0, 1) := by decide +kernel
theorem dX9_wordHere_53 : decode cX9_wordHere 53 = .ok (.ldc2_w 186, 3) := by decide +kernel
theorem dX9_wordHere_56 : decode cX9_wordHere 56 = .ok (.invokevirtual 268, 3) := by decide +kernel
theorem dX9_wordHere_59 : decode cX9_wordHere 59 = .ok (.ifCond .eq 6, 3) := by decide +kernel
theorem dX9_wordHere_62 : decode cX9_wordHere 62 = .ok (.bipush 101, 2) := by decide +kernel
theorem dX9_wordHere_64 : decode cX9_wordHere 64 = .ok (.ireturn, 1) := by decide +kernel
theorem dX9_wordHere_65 : decode cX9_wordHere 65 = .ok (.aload_n 0, 1) := by decide +kernel
theorem dX9_wordHere_66 : decode cX9_wordHere 66 = .ok (.ldc2_w 188, 3) := by decide +kernel
theorem dX9_wordHere_69 : decode cX9_wordHere 69 = .ok (.invokevirtual 268, 3) := by decide +kernel
theorem dX9_wordHere_72 : decode cX9_wordHere 72 = .ok (.ifCond .eq 6, 3) := by decide +kernel
theorem dX9_wordHere_75 : decode cX9_wordHere 75 = .ok (.bipush 102, 2) := by decide +kernel
theorem dX9_wordHere_77 : decode cX9_wordHere 77 = .ok (.ireturn, 1) := by decide +kernel
theorem dX9_wordHere_78 : decode cX9_wordHere 78 = .ok (.aload_n 0, 1) := by decide +kernel
theorem dX9_wordHere_79 : decode cX9_wordHere 79 = .ok (.ldc2_w 216, 3) := by decide +kernel
theorem dX9_wordHere_82 : decode cX9_wordHere 82 = .ok (.invokevirtual 268, 3) := by decide +kernel
theorem dX9_wordHere_85 : decode cX9_wordHere 85 = .ok (.ifCond .eq 6, 3) := by decide +kernel
theorem dX9_wordHere_88 : decode cX9_wordHere 88 = .ok (.bipush 103, 2) := by decide +kernel
theorem dX9_wordHere_90 : decode cX9_wordHere 90 = .ok (.ireturn, 1) := by decide +kernel
theorem dX9_wordHere_91 : decode cX9_wordHere 91 = .ok (.aload_n 0, 1) := by decide +kernel
theorem dX9_wordHere_92 : decode cX9_wordHere 92 = .ok (.ldc2_w 218, 3) := by decide +kernel
theorem dX9_wordHere_95 : decode cX9_wordHere 95 = .ok (.invokevirtual 268, 3) := by decide +kernel
theorem dX9_wordHere_98 : decode cX9_wordHere 98 = .ok (.ifCond .eq 8, 3) := by decide +kernel
theorem dX9_wordHere_101 : decode cX9_wordHere 101 = .ok (.bipush 104, 2) := by decide +kernel
theorem dX9_wordHere_103 : decode cX9_wordHere 103 = .ok (.goto 4, 3) := by decide +kernel
theorem dX9_wordHere_107 : decode cX9_wordHere 107 = .ok (.ireturn, 1) := by decide +kernel
theorem dX9_wordHere_106 : decode cX9_wordHere 106 = .ok (.iconst 0, 1) := by decide +kernel
theorem dX9_rankHere_0 : decode cX9_rankHere 0 = .ok (.aload_n 0, 1) := by decide +kernel
theorem dX9_rankHere_1 : decode cX9_rankHere 1 = .ok (.ldc2_w 208, 3) := by decide +kernel
theorem dX9_rankHere_4 : decode cX9_rankHere 4 = .ok (.invokevirtual 268, 3) := by decide +kernel
theorem dX9_rankHere_7 : decode cX9_rankHere 7 = .ok (.ifCond .eq 5, 3) := by decide +kernel
theorem dX9_rankHere_10 : decode cX9_rankHere 10 = .ok (.iconst 2, 1) := by decide +kernel
theorem dX9_rankHere_11 : decode cX9_rankHere 11 = .ok (.ireturn, 1) := by decide +kernel
theorem dX9_rankHere_12 : decode cX9_rankHere 12 = .ok (.aload_n 0, 1) := by decide +kernel
theorem dX9_rankHere_13 : decode cX9_rankHere 13 = .ok (.ldc2_w 206, 3) := by decide +kernel
theorem dX9_rankHere_16 : decode cX9_rankHere 16 = .ok (.invokevirtual 268, 3) := by decide +kernel
theorem dX9_rankHere_19 : decode cX9_rankHere 19 = .ok (.ifCond .eq 5, 3) := by decide +kernel
theorem dX9_rankHere_22 : decode cX9_rankHere 22 = .ok (.iconst 1, 1) := by decide +kernel
theorem dX9_rankHere_23 : decode cX9_rankHere 23 = .ok (.ireturn, 1) := by decide +kernel
theorem dX9_rankHere_24 : decode cX9_rankHere 24 = .ok (.aload_n 0, 1) := by decide +kernel
theorem dX9_rankHere_25 : decode cX9_rankHere 25 = .ok (.bipush 60, 2) := by decide +kernel
theorem dX9_rankHere_27 : decode cX9_rankHere 27 = .ok (.invokevirtual 322, 3) := by decide +kernel
theorem dX9_rankHere_30 : decode cX9_rankHere 30 = .ok (.ifCond .ne 21, 3) := by decide +kernel
theorem dX9_rankHere_51 : decode cX9_rankHere 51 = .ok (.iconst 4, 1) := by decide +kernel
theorem dX9_rankHere_52 : decode cX9_rankHere 52 = .ok (.ireturn, 1) := by decide +kernel
theorem dX9_rankHere_33 : decode cX9_rankHere 33 = .ok (.aload_n 0, 1) := by decide +kernel
theorem dX9_rankHere_34 : decode cX9_rankHere 34 = .ok (.bipush 62, 2) := by decide +kernel
theorem dX9_rankHere_36 : decode cX9_rankHere 36 = .ok (.invokevirtual 322, 3) := by decide +kernel
theorem dX9_rankHere_39 : decode cX9_rankHere 39 = .ok (.ifCond .ne 12, 3) := by decide +kernel
theorem dX9_rankHere_42 : decode cX9_rankHere 42 = .ok (.aload_n 0, 1) := by decide +kernel
theorem dX9_rankHere_43 : decode cX9_rankHere 43 = .ok (.bipush 61, 2) := by decide +kernel
theorem dX9_rankHere_45 : decode cX9_rankHere 45 = .ok (.invokevirtual 322, 3) := by decide +kernel
theorem dX9_rankHere_48 : decode cX9_rankHere 48 = .ok (.ifCond .eq 5, 3) := by decide +kernel
theorem dX9_rankHere_53 : decode cX9_rankHere 53 = .ok (.aload_n 0, 1) := by decide +kernel
theorem dX9_rankHere_54 : decode cX9_rankHere 54 = .ok (.bipush 43, 2) := by decide +kernel
theorem dX9_rankHere_56 : decode cX9_rankHere 56 = .ok (.invokevirtual 322, 3) := by decide +kernel
theorem dX9_rankHere_59 : decode cX9_rankHere 59 = .ok (.ifCond .ne 12, 3) := by decide +kernel
theorem dX9_rankHere_71 : decode cX9_rankHere 71 = .ok (.iconst 5, 1) := by decide +kernel
theorem dX9_rankHere_72 : decode cX9_rankHere 72 = .ok (.ireturn, 1) := by decide +kernel
theorem dX9_rankHere_62 : decode cX9_rankHere 62 = .ok (.aload_n 0, 1) := by decide +kernel
theorem dX9_rankHere_63 : decode cX9_rankHere 63 = .ok (.bipush 45, 2) := by decide +kernel
theorem dX9_rankHere_65 : decode cX9_rankHere 65 = .ok (.invokevirtual 322, 3) := by decide +kernel
theorem dX9_rankHere_68 : decode cX9_rankHere 68 = .ok (.ifCond .eq 5, 3) := by decide +kernel
theorem dX9_rankHere_73 : decode cX9_rankHere 73 = .ok (.aload_n 0, 1) := by decide +kernel
theorem dX9_rankHere_74 : decode cX9_rankHere 74 = .ok (.bipush 42, 2) := by decide +kernel
theorem dX9_rankHere_76 : decode cX9_rankHere 76 = .ok (.invokevirtual 322, 3) := by decide +kernel
theorem dX9_rankHere_79 : decode cX9_rankHere 79 = .ok (.ifCond .ne 12, 3) := by decide +kernel
theorem dX9_rankHere_91 : decode cX9_rankHere 91 = .ok (.bipush 6, 2) := by decide +kernel
theorem dX9_rankHere_93 : decode cX9_rankHere 93 = .ok (.goto 4, 3) := by decide +kernel
theorem dX9_rankHere_97 : decode cX9_rankHere 97 = .ok (.ireturn, 1) := by decide +kernel
theorem dX9_rankHere_82 : decode cX9_rankHere 82 = .ok (.aload_n 0, 1) := by decide +kernel
theorem dX9_rankHere_83 : decode cX9_rankHere 83 = .ok (.bipush 47, 2) := by decide +kernel
theorem dX9_rankHere_85 : decode cX9_rankHere 85 = .ok (.invokevirtual 322, 3) := by decide +kernel
theorem dX9_rankHere_88 : decode cX9_rankHere 88 = .ok (.ifCond .eq 8, 3) := by decide +kernel
theorem dX9_rankHere_96 : decode cX9_rankHere 96 = .ok (.iconst 0, 1) := by decide +kernel
theorem dX9_isCompared_0 : decode cX9_isCompared 0 = .ok (.aload_n 0, 1) := by decide +kernel
theorem dX9_isCompared_1 : decode cX9_isCompared 1 = .ok (.getfield 339, 3) := by decide +kernel
theorem dX9_isCompared_4 : decode cX9_isCompared 4 = .ok (.iconst 1, 1) := by decide +kernel
theorem dX9_isCompared_5 : decode cX9_isCompared 5 = .ok (.isub, 1) := by decide +kernel
theorem dX9_isCompared_6 : decode cX9_isCompared 6 = .ok (.istore_n 1, 1) := by decide +kernel
theorem dX9_isCompared_7 : decode cX9_isCompared 7 = .ok (.aload_n 0, 1) := by decide +kernel
theorem dX9_isCompared_8 : decode cX9_isCompared 8 = .ok (.getfield 110, 3) := by decide +kernel
theorem dX9_isCompared_11 : decode cX9_isCompared 11 = .ok (.iload_n 1, 1) := by decide +kernel
theorem dX9_isCompared_12 : decode cX9_isCompared 12 = .ok (.iaload, 1) := by decide +kernel
theorem dX9_isCompared_13 : decode cX9_isCompared 13 = .ok (.iconst 5, 1) := by decide +kernel
theorem dX9_isCompared_14 : decode cX9_isCompared 14 = .ok (.if_icmp .eq 14, 3) := by decide +kernel
theorem dX9_isCompared_28 : decode cX9_isCompared 28 = .ok (.iinc 1 (-1), 3) := by decide +kernel
theorem dX9_isCompared_31 : decode cX9_isCompared 31 = .ok (.goto (-24), 3) := by decide +kernel
theorem dX9_isCompared_17 : decode cX9_isCompared 17 = .ok (.aload_n 0, 1) := by decide +kernel
theorem dX9_isCompared_18 : decode cX9_isCompared 18 = .ok (.getfield 110, 3) := by decide +kernel
theorem dX9_isCompared_21 : decode cX9_isCompared 21 = .ok (.iload_n 1, 1) := by decide +kernel
theorem dX9_isCompared_22 : decode cX9_isCompared 22 = .ok (.iaload, 1) := by decide +kernel
theorem dX9_isCompared_23 : decode cX9_isCompared 23 = .ok (.bipush 6, 2) := by decide +kernel
theorem dX9_isCompared_25 : decode cX9_isCompared 25 = .ok (.if_icmp .ne 9, 3) := by decide +kernel
theorem dX9_isCompared_34 : decode cX9_isCompared 34 = .ok (.aload_n 0, 1) := by decide +kernel
theorem dX9_isCompared_35 : decode cX9_isCompared 35 = .ok (.getfield 110, 3) := by decide +kernel
theorem dX9_isCompared_38 : decode cX9_isCompared 38 = .ok (.iload_n 1, 1) := by decide +kernel
theorem dX9_isCompared_39 : decode cX9_isCompared 39 = .ok (.iaload, 1) := by decide +kernel
theorem dX9_isCompared_40 : decode cX9_isCompared 40 = .ok (.iconst 4, 1) := by decide +kernel
theorem dX9_isCompared_41 : decode cX9_isCompared 41 = .ok (.if_icmp .ne 7, 3) := by decide +kernel
theorem dX9_isCompared_48 : decode cX9_isCompared 48 = .ok (.iconst 0, 1) := by decide +kernel
theorem dX9_isCompared_49 : decode cX9_isCompared 49 = .ok (.ireturn, 1) := by decide +kernel
theorem dX9_isCompared_44 : decode cX9_isCompared 44 = .ok (.iconst 1, 1) := by decide +kernel
theorem dX9_isCompared_45 : decode cX9_isCompared 45 = .ok (.goto 4, 3) := by decide +kernel
theorem dX9_unit_36 : decode cX9_unit 36 = .ok (.istore_n 1, 1) := by decide +kernel
theorem dX9_unit_56 : decode cX9_unit 56 = .ok (.istore_n 2, 1) := by decide +kernel
theorem dX9_unit_63 : decode cX9_unit 63 = .ok (.istore_n 3, 1) := by decide +kernel
theorem dX9_unit_64 : decode cX9_unit 64 = .ok (.aload_n 0, 1) := by decide +kernel
theorem dX9_unit_65 : decode cX9_unit 65 = .ok (.invokevirtual 354, 3) := by decide +kernel
theorem dX9_unit_68 : decode cX9_unit 68 = .ok (.istore 4, 2) := by decide +kernel
theorem dX9_unit_121 : decode cX9_unit 121 = .ok (.aload_n 0, 1) := by decide +kernel
theorem dX9_unit_122 : decode cX9_unit 122 = .ok (.invokevirtual 258, 3) := by decide +kernel
theorem dX9_unit_125 : decode cX9_unit 125 = .ok (.ifCond .ne 5, 3) := by decide +kernel
theorem dX9_unit_130 : decode cX9_unit 130 = .ok (.aload_n 0, 1) := by decide +kernel
theorem dX9_unit_131 : decode cX9_unit 131 = .ok (.dup, 1) := by decide +kernel
theorem dX9_unit_132 : decode cX9_unit 132 = .ok (.getfield 285, 3) := by decide +kernel
theorem dX9_unit_135 : decode cX9_unit 135 = .ok (.iload_n 2, 1) := by decide +kernel
theorem dX9_unit_136 : decode cX9_unit 136 = .ok (.ifCond .eq 7, 3) := by decide +kernel
theorem dX9_unit_143 : decode cX9_unit 143 = .ok (.iconst 1, 1) := by decide +kernel
theorem dX9_unit_144 : decode cX9_unit 144 = .ok (.iadd, 1) := by decide +kernel
theorem dX9_unit_145 : decode cX9_unit 145 = .ok (.putfield 285, 3) := by decide +kernel
theorem dX9_unit_148 : decode cX9_unit 148 = .ok (.iload 4, 2) := by decide +kernel
theorem dX9_unit_150 : decode cX9_unit 150 = .ok (.ifCond .ne 10, 3) := by decide +kernel
theorem dX9_unit_160 : decode cX9_unit 160 = .ok (.iconst 0, 1) := by decide +kernel
theorem dX9_unit_161 : decode cX9_unit 161 = .ok (.istore 5, 2) := by decide +kernel
theorem dX9_unit_163 : decode cX9_unit 163 = .ok (.aload_n 0, 1) := by decide +kernel
theorem dX9_unit_164 : decode cX9_unit 164 = .ok (.invokevirtual 262, 3) := by decide +kernel
theorem dX9_unit_167 : decode cX9_unit 167 = .ok (.iload_n 2, 1) := by decide +kernel
theorem dX9_unit_168 : decode cX9_unit 168 = .ok (.ifCond .ne 7, 3) := by decide +kernel
theorem dX9_unit_175 : decode cX9_unit 175 = .ok (.aload_n 0, 1) := by decide +kernel
theorem dX9_unit_176 : decode cX9_unit 176 = .ok (.iload_n 2, 1) := by decide +kernel
theorem dX9_unit_177 : decode cX9_unit 177 = .ok (.ifCond .eq 7, 3) := by decide +kernel
theorem dX9_unit_180 : decode cX9_unit 180 = .ok (.iconst 3, 1) := by decide +kernel
theorem dX9_unit_181 : decode cX9_unit 181 = .ok (.goto 5, 3) := by decide +kernel
theorem dX9_unit_186 : decode cX9_unit 186 = .ok (.bipush 126, 2) := by decide +kernel
theorem dX9_unit_188 : decode cX9_unit 188 = .ok (.invokevirtual 345, 3) := by decide +kernel
theorem dX9_unit_191 : decode cX9_unit 191 = .ok (.aload_n 0, 1) := by decide +kernel
theorem dX9_unit_192 : decode cX9_unit 192 = .ok (.dup, 1) := by decide +kernel
theorem dX9_unit_193 : decode cX9_unit 193 = .ok (.getfield 342, 3) := by decide +kernel
theorem dX9_unit_196 : decode cX9_unit 196 = .ok (.iconst 1, 1) := by decide +kernel
theorem dX9_unit_197 : decode cX9_unit 197 = .ok (.iadd, 1) := by decide +kernel
theorem dX9_unit_198 : decode cX9_unit 198 = .ok (.putfield 342, 3) := by decide +kernel
theorem dX9_unit_201 : decode cX9_unit 201 = .ok (.iconst 1, 1) := by decide +kernel
theorem dX9_unit_202 : decode cX9_unit 202 = .ok (.ireturn, 1) := by decide +kernel
theorem dX9_unit_171 : decode cX9_unit 171 = .ok (.iload_n 3, 1) := by decide +kernel
theorem dX9_unit_172 : decode cX9_unit 172 = .ok (.ifCond .eq 31, 3) := by decide +kernel
theorem dX9_unit_203 : decode cX9_unit 203 = .ok (.aload_n 0, 1) := by decide +kernel
theorem dX9_unit_204 : decode cX9_unit 204 = .ok (.iload 4, 2) := by decide +kernel
theorem dX9_unit_206 : decode cX9_unit 206 = .ok (.ifCond .ne 8, 3) := by decide +kernel
theorem dX9_unit_214 : decode cX9_unit 214 = .ok (.iload 4, 2) := by decide +kernel
theorem dX9_unit_216 : decode cX9_unit 216 = .ok (.iload 5, 2) := by decide +kernel
theorem dX9_unit_218 : decode cX9_unit 218 = .ok (.invokevirtual 358, 3) := by decide +kernel
theorem dX9_unit_221 : decode cX9_unit 221 = .ok (.iconst 0, 1) := by decide +kernel
theorem dX9_unit_222 : decode cX9_unit 222 = .ok (.ireturn, 1) := by decide +kernel
theorem dX9_unit_184 : decode cX9_unit 184 = .ok (.bipush 7, 2) := by decide +kernel
theorem dX9_unit_153 : decode cX9_unit 153 = .ok (.aload_n 0, 1) := by decide +kernel
theorem dX9_unit_154 : decode cX9_unit 154 = .ok (.getfield 248, 3) := by decide +kernel
theorem dX9_unit_157 : decode cX9_unit 157 = .ok (.goto 4, 3) := by decide +kernel
theorem dX9_unit_209 : decode cX9_unit 209 = .ok (.bipush 110, 2) := by decide +kernel
theorem dX9_unit_211 : decode cX9_unit 211 = .ok (.goto 5, 3) := by decide +kernel
theorem dX9_unit_139 : decode cX9_unit 139 = .ok (.iconst 0, 1) := by decide +kernel
theorem dX9_unit_140 : decode cX9_unit 140 = .ok (.goto 4, 3) := by decide +kernel
theorem dX9_unit_128 : decode cX9_unit 128 = .ok (.iconst 1, 1) := by decide +kernel
theorem dX9_unit_129 : decode cX9_unit 129 = .ok (.ireturn, 1) := by decide +kernel
theorem dX9_unit_70 : decode cX9_unit 70 = .ok (.iload_n 2, 1) := by decide +kernel
theorem dX9_unit_71 : decode cX9_unit 71 = .ok (.ifCond .ne 29, 3) := by decide +kernel
theorem dX9_unit_100 : decode cX9_unit 100 = .ok (.iload_n 2, 1) := by decide +kernel
theorem dX9_unit_101 : decode cX9_unit 101 = .ok (.ifCond .ne 7, 3) := by decide +kernel
theorem dX9_unit_108 : decode cX9_unit 108 = .ok (.aload_n 0, 1) := by decide +kernel
theorem dX9_unit_109 : decode cX9_unit 109 = .ok (.getfield 342, 3) := by decide +kernel
theorem dX9_unit_112 : decode cX9_unit 112 = .ok (.bipush 7, 2) := by decide +kernel
theorem dX9_unit_114 : decode cX9_unit 114 = .ok (.if_icmp .ne 7, 3) := by decide +kernel
theorem dX9_unit_117 : decode cX9_unit 117 = .ok (.aload_n 0, 1) := by decide +kernel
theorem dX9_unit_118 : decode cX9_unit 118 = .ok (.invokevirtual 265, 3) := by decide +kernel
theorem dX9_unit_74 : decode cX9_unit 74 = .ok (.iload 4, 2) := by decide +kernel
theorem dX9_unit_76 : decode cX9_unit 76 = .ok (.ifCond .ne 15, 3) := by decide +kernel
theorem dX9_unit_91 : decode cX9_unit 91 = .ok (.aload_n 0, 1) := by decide +kernel
theorem dX9_unit_92 : decode cX9_unit 92 = .ok (.getfield 285, 3) := by decide +kernel
theorem dX9_unit_95 : decode cX9_unit 95 = .ok (.bipush 60, 2) := by decide +kernel
theorem dX9_unit_97 : decode cX9_unit 97 = .ok (.if_icmp .eq 20, 3) := by decide +kernel
theorem dX9_unit_104 : decode cX9_unit 104 = .ok (.iload_n 3, 1) := by decide +kernel
theorem dX9_unit_105 : decode cX9_unit 105 = .ok (.ifCond .eq 16, 3) := by decide +kernel
theorem dX9_unit_79 : decode cX9_unit 79 = .ok (.aload_n 0, 1) := by decide +kernel
theorem dX9_unit_80 : decode cX9_unit 80 = .ok (.getfield 230, 3) := by decide +kernel
theorem dX9_unit_83 : decode cX9_unit 83 = .ok (.iconst 4, 1) := by decide +kernel
theorem dX9_unit_84 : decode cX9_unit 84 = .ok (.if_icmp .eq 7, 3) := by decide +kernel
theorem dX9_unit_87 : decode cX9_unit 87 = .ok (.iload_n 3, 1) := by decide +kernel
theorem dX9_unit_88 : decode cX9_unit 88 = .ok (.ifCond .eq 29, 3) := by decide +kernel
theorem dX9_unit_57 : decode cX9_unit 57 = .ok (.aload_n 0, 1) := by decide +kernel
theorem dX9_unit_58 : decode cX9_unit 58 = .ok (.bipush 40, 2) := by decide +kernel
theorem dX9_unit_60 : decode cX9_unit 60 = .ok (.invokevirtual 322, 3) := by decide +kernel
theorem dX9_unit_37 : decode cX9_unit 37 = .ok (.iload_n 1, 1) := by decide +kernel
theorem dX9_unit_38 : decode cX9_unit 38 = .ok (.ifCond .eq 17, 3) := by decide +kernel
theorem dX9_unit_55 : decode cX9_unit 55 = .ok (.iconst 0, 1) := by decide +kernel
theorem dX9_unit_41 : decode cX9_unit 41 = .ok (.aload_n 0, 1) := by decide +kernel
theorem dX9_unit_42 : decode cX9_unit 42 = .ok (.ldc2_w 210, 3) := by decide +kernel
theorem dX9_unit_45 : decode cX9_unit 45 = .ok (.invokevirtual 268, 3) := by decide +kernel
theorem dX9_unit_48 : decode cX9_unit 48 = .ok (.ifCond .eq 7, 3) := by decide +kernel
theorem dX9_unit_51 : decode cX9_unit 51 = .ok (.iconst 1, 1) := by decide +kernel
theorem dX9_unit_52 : decode cX9_unit 52 = .ok (.goto 4, 3) := by decide +kernel
theorem dX9_unit_0 : decode cX9_unit 0 = .ok (.aload_n 0, 1) := by decide +kernel
theorem dX9_unit_1 : decode cX9_unit 1 = .ok (.getfield 110, 3) := by decide +kernel
theorem dX9_unit_4 : decode cX9_unit 4 = .ok (.aload_n 0, 1) := by decide +kernel
theorem dX9_unit_5 : decode cX9_unit 5 = .ok (.getfield 339, 3) := by decide +kernel
theorem dX9_unit_8 : decode cX9_unit 8 = .ok (.iconst 1, 1) := by decide +kernel
theorem dX9_unit_9 : decode cX9_unit 9 = .ok (.isub, 1) := by decide +kernel
theorem dX9_unit_10 : decode cX9_unit 10 = .ok (.iaload, 1) := by decide +kernel
theorem dX9_unit_11 : decode cX9_unit 11 = .ok (.iconst 3, 1) := by decide +kernel
theorem dX9_unit_12 : decode cX9_unit 12 = .ok (.if_icmp .le 19, 3) := by decide +kernel
theorem dX9_unit_31 : decode cX9_unit 31 = .ok (.iconst 1, 1) := by decide +kernel
theorem dX9_unit_32 : decode cX9_unit 32 = .ok (.goto 4, 3) := by decide +kernel
theorem dX9_unit_15 : decode cX9_unit 15 = .ok (.aload_n 0, 1) := by decide +kernel
theorem dX9_unit_16 : decode cX9_unit 16 = .ok (.getfield 110, 3) := by decide +kernel
theorem dX9_unit_19 : decode cX9_unit 19 = .ok (.aload_n 0, 1) := by decide +kernel
theorem dX9_unit_20 : decode cX9_unit 20 = .ok (.getfield 339, 3) := by decide +kernel
theorem dX9_unit_23 : decode cX9_unit 23 = .ok (.iconst 1, 1) := by decide +kernel
theorem dX9_unit_24 : decode cX9_unit 24 = .ok (.isub, 1) := by decide +kernel
theorem dX9_unit_25 : decode cX9_unit 25 = .ok (.iaload, 1) := by decide +kernel
theorem dX9_unit_26 : decode cX9_unit 26 = .ok (.bipush 7, 2) := by decide +kernel
theorem dX9_unit_28 : decode cX9_unit 28 = .ok (.if_icmp .lt 7, 3) := by decide +kernel
theorem dX9_unit_35 : decode cX9_unit 35 = .ok (.iconst 0, 1) := by decide +kernel
theorem dX9_behindUnit_0 : decode cX9_behindUnit 0 = .ok (.aload_n 0, 1) := by decide +kernel
theorem dX9_behindUnit_1 : decode cX9_behindUnit 1 = .ok (.invokevirtual 361, 3) := by decide +kernel
theorem dX9_behindUnit_4 : decode cX9_behindUnit 4 = .ok (.istore_n 1, 1) := by decide +kernel
theorem dX9_behindUnit_104 : decode cX9_behindUnit 104 = .ok (.iload_n 1, 1) := by decide +kernel
theorem dX9_behindUnit_105 : decode cX9_behindUnit 105 = .ok (.ifCond .le 42, 3) := by decide +kernel
theorem dX9_behindUnit_147 : decode cX9_behindUnit 147 = .ok (.aload_n 0, 1) := by decide +kernel
theorem dX9_behindUnit_148 : decode cX9_behindUnit 148 = .ok (.dup, 1) := by decide +kernel
theorem dX9_behindUnit_149 : decode cX9_behindUnit 149 = .ok (.getfield 339, 3) := by decide +kernel
theorem dX9_behindUnit_152 : decode cX9_behindUnit 152 = .ok (.iconst 1, 1) := by decide +kernel
theorem dX9_behindUnit_153 : decode cX9_behindUnit 153 = .ok (.isub, 1) := by decide +kernel
theorem dX9_behindUnit_154 : decode cX9_behindUnit 154 = .ok (.putfield 339, 3) := by decide +kernel
theorem dX9_behindUnit_157 : decode cX9_behindUnit 157 = .ok (.aload_n 0, 1) := by decide +kernel
theorem dX9_behindUnit_158 : decode cX9_behindUnit 158 = .ok (.getfield 110, 3) := by decide +kernel
theorem dX9_behindUnit_161 : decode cX9_behindUnit 161 = .ok (.aload_n 0, 1) := by decide +kernel
theorem dX9_behindUnit_162 : decode cX9_behindUnit 162 = .ok (.getfield 339, 3) := by decide +kernel
theorem dX9_behindUnit_165 : decode cX9_behindUnit 165 = .ok (.iaload, 1) := by decide +kernel
theorem dX9_behindUnit_166 : decode cX9_behindUnit 166 = .ok (.bipush 7, 2) := by decide +kernel
theorem dX9_behindUnit_168 : decode cX9_behindUnit 168 = .ok (.if_icmp .ne 23, 3) := by decide +kernel
theorem dX9_behindUnit_191 : decode cX9_behindUnit 191 = .ok (.iconst 0, 1) := by decide +kernel
theorem dX9_behindUnit_192 : decode cX9_behindUnit 192 = .ok (.ireturn, 1) := by decide +kernel
theorem dX9_behindUnit_171 : decode cX9_behindUnit 171 = .ok (.aload_n 0, 1) := by decide +kernel
theorem dX9_behindUnit_172 : decode cX9_behindUnit 172 = .ok (.dup, 1) := by decide +kernel
theorem dX9_behindUnit_173 : decode cX9_behindUnit 173 = .ok (.getfield 342, 3) := by decide +kernel
theorem dX9_behindUnit_176 : decode cX9_behindUnit 176 = .ok (.iconst 1, 1) := by decide +kernel
theorem dX9_behindUnit_177 : decode cX9_behindUnit 177 = .ok (.isub, 1) := by decide +kernel
theorem dX9_behindUnit_178 : decode cX9_behindUnit 178 = .ok (.putfield 342, 3) := by decide +kernel
theorem dX9_behindUnit_181 : decode cX9_behindUnit 181 = .ok (.aload_n 0, 1) := by decide +kernel
theorem dX9_behindUnit_182 : decode cX9_behindUnit 182 = .ok (.aload_n 0, 1) := by decide +kernel
theorem dX9_behindUnit_183 : decode cX9_behindUnit 183 = .ok (.bipush 41, 2) := by decide +kernel
theorem dX9_behindUnit_185 : decode cX9_behindUnit 185 = .ok (.invokevirtual 322, 3) := by decide +kernel
theorem dX9_behindUnit_188 : decode cX9_behindUnit 188 = .ok (.invokevirtual 271, 3) := by decide +kernel
theorem dX9_behindUnit_108 : decode cX9_behindUnit 108 = .ok (.aload_n 0, 1) := by decide +kernel
theorem dX9_behindUnit_109 : decode cX9_behindUnit 109 = .ok (.iload_n 1, 1) := by decide +kernel
theorem dX9_behindUnit_110 : decode cX9_behindUnit 110 = .ok (.iload_n 1, 1) := by decide +kernel
theorem dX9_behindUnit_111 : decode cX9_behindUnit 111 = .ok (.iconst 2, 1) := by decide +kernel
theorem dX9_behindUnit_112 : decode cX9_behindUnit 112 = .ok (.if_icmp .ne 8, 3) := by decide +kernel
theorem dX9_behindUnit_120 : decode cX9_behindUnit 120 = .ok (.iload_n 1, 1) := by decide +kernel
theorem dX9_behindUnit_121 : decode cX9_behindUnit 121 = .ok (.iconst 1, 1) := by decide +kernel
theorem dX9_behindUnit_122 : decode cX9_behindUnit 122 = .ok (.if_icmp .ne 8, 3) := by decide +kernel
theorem dX9_behindUnit_130 : decode cX9_behindUnit 130 = .ok (.aload_n 0, 1) := by decide +kernel
theorem dX9_behindUnit_131 : decode cX9_behindUnit 131 = .ok (.aload_n 0, 1) := by decide +kernel
theorem dX9_behindUnit_132 : decode cX9_behindUnit 132 = .ok (.getfield 223, 3) := by decide +kernel
theorem dX9_behindUnit_135 : decode cX9_behindUnit 135 = .ok (.invokevirtual 226, 3) := by decide +kernel
theorem dX9_behindUnit_138 : decode cX9_behindUnit 138 = .ok (.invokevirtual 345, 3) := by decide +kernel
theorem dX9_behindUnit_141 : decode cX9_behindUnit 141 = .ok (.aload_n 0, 1) := by decide +kernel
theorem dX9_behindUnit_142 : decode cX9_behindUnit 142 = .ok (.invokevirtual 262, 3) := by decide +kernel
theorem dX9_behindUnit_145 : decode cX9_behindUnit 145 = .ok (.iconst 1, 1) := by decide +kernel
theorem dX9_behindUnit_146 : decode cX9_behindUnit 146 = .ok (.ireturn, 1) := by decide +kernel
theorem dX9_behindUnit_125 : decode cX9_behindUnit 125 = .ok (.bipush 124, 2) := by decide +kernel
theorem dX9_behindUnit_127 : decode cX9_behindUnit 127 = .ok (.goto 11, 3) := by decide +kernel
theorem dX9_behindUnit_115 : decode cX9_behindUnit 115 = .ok (.bipush 38, 2) := by decide +kernel
theorem dX9_behindUnit_117 : decode cX9_behindUnit 117 = .ok (.goto 21, 3) := by decide +kernel
theorem dX9_behindUnit_5 : decode cX9_behindUnit 5 = .ok (.iload_n 1, 1) := by decide +kernel
theorem dX9_behindUnit_6 : decode cX9_behindUnit 6 = .ok (.iconst 4, 1) := by decide +kernel
theorem dX9_behindUnit_7 : decode cX9_behindUnit 7 = .ok (.if_icmp .ne 16, 3) := by decide +kernel
theorem dX9_behindUnit_23 : decode cX9_behindUnit 23 = .ok (.aload_n 0, 1) := by decide +kernel
theorem dX9_behindUnit_24 : decode cX9_behindUnit 24 = .ok (.getfield 110, 3) := by decide +kernel
theorem dX9_behindUnit_27 : decode cX9_behindUnit 27 = .ok (.aload_n 0, 1) := by decide +kernel
theorem dX9_behindUnit_28 : decode cX9_behindUnit 28 = .ok (.getfield 339, 3) := by decide +kernel
theorem dX9_behindUnit_31 : decode cX9_behindUnit 31 = .ok (.iconst 1, 1) := by decide +kernel
theorem dX9_behindUnit_32 : decode cX9_behindUnit 32 = .ok (.isub, 1) := by decide +kernel
theorem dX9_behindUnit_33 : decode cX9_behindUnit 33 = .ok (.iaload, 1) := by decide +kernel
theorem dX9_behindUnit_34 : decode cX9_behindUnit 34 = .ok (.bipush 6, 2) := by decide +kernel
theorem dX9_behindUnit_36 : decode cX9_behindUnit 36 = .ok (.if_icmp .gt 68, 3) := by decide +kernel
theorem dX9_behindUnit_39 : decode cX9_behindUnit 39 = .ok (.aload_n 0, 1) := by decide +kernel
theorem dX9_behindUnit_40 : decode cX9_behindUnit 40 = .ok (.getfield 110, 3) := by decide +kernel
theorem dX9_behindUnit_43 : decode cX9_behindUnit 43 = .ok (.aload_n 0, 1) := by decide +kernel
theorem dX9_behindUnit_44 : decode cX9_behindUnit 44 = .ok (.getfield 339, 3) := by decide +kernel
theorem dX9_behindUnit_47 : decode cX9_behindUnit 47 = .ok (.iconst 1, 1) := by decide +kernel
theorem dX9_behindUnit_48 : decode cX9_behindUnit 48 = .ok (.isub, 1) := by decide +kernel
theorem dX9_behindUnit_49 : decode cX9_behindUnit 49 = .ok (.iaload, 1) := by decide +kernel
theorem dX9_behindUnit_50 : decode cX9_behindUnit 50 = .ok (.iload_n 1, 1) := by decide +kernel
theorem dX9_behindUnit_51 : decode cX9_behindUnit 51 = .ok (.if_icmp .lt 53, 3) := by decide +kernel
theorem dX9_behindUnit_54 : decode cX9_behindUnit 54 = .ok (.aload_n 0, 1) := by decide +kernel
theorem dX9_behindUnit_55 : decode cX9_behindUnit 55 = .ok (.dup, 1) := by decide +kernel
theorem dX9_behindUnit_56 : decode cX9_behindUnit 56 = .ok (.getfield 339, 3) := by decide +kernel
theorem dX9_behindUnit_59 : decode cX9_behindUnit 59 = .ok (.iconst 1, 1) := by decide +kernel
theorem dX9_behindUnit_60 : decode cX9_behindUnit 60 = .ok (.isub, 1) := by decide +kernel
theorem dX9_behindUnit_61 : decode cX9_behindUnit 61 = .ok (.putfield 339, 3) := by decide +kernel
theorem dX9_behindUnit_64 : decode cX9_behindUnit 64 = .ok (.aload_n 0, 1) := by decide +kernel
theorem dX9_behindUnit_65 : decode cX9_behindUnit 65 = .ok (.getfield 110, 3) := by decide +kernel
theorem dX9_behindUnit_68 : decode cX9_behindUnit 68 = .ok (.aload_n 0, 1) := by decide +kernel
theorem dX9_behindUnit_69 : decode cX9_behindUnit 69 = .ok (.getfield 339, 3) := by decide +kernel
theorem dX9_behindUnit_72 : decode cX9_behindUnit 72 = .ok (.iaload, 1) := by decide +kernel
theorem dX9_behindUnit_73 : decode cX9_behindUnit 73 = .ok (.iconst 3, 1) := by decide +kernel
theorem dX9_behindUnit_74 : decode cX9_behindUnit 74 = .ok (.if_icmp .ne 13, 3) := by decide +kernel
theorem dX9_behindUnit_87 : decode cX9_behindUnit 87 = .ok (.aload_n 0, 1) := by decide +kernel
theorem dX9_behindUnit_88 : decode cX9_behindUnit 88 = .ok (.aload_n 0, 1) := by decide +kernel
theorem dX9_behindUnit_89 : decode cX9_behindUnit 89 = .ok (.getfield 113, 3) := by decide +kernel
theorem dX9_behindUnit_92 : decode cX9_behindUnit 92 = .ok (.aload_n 0, 1) := by decide +kernel
theorem dX9_behindUnit_93 : decode cX9_behindUnit 93 = .ok (.getfield 339, 3) := by decide +kernel
theorem dX9_behindUnit_96 : decode cX9_behindUnit 96 = .ok (.iaload, 1) := by decide +kernel
theorem dX9_behindUnit_97 : decode cX9_behindUnit 97 = .ok (.iconst 0, 1) := by decide +kernel
theorem dX9_behindUnit_98 : decode cX9_behindUnit 98 = .ok (.invokevirtual 358, 3) := by decide +kernel
theorem dX9_behindUnit_101 : decode cX9_behindUnit 101 = .ok (.goto (-78), 3) := by decide +kernel
theorem dX9_behindUnit_77 : decode cX9_behindUnit 77 = .ok (.aload_n 0, 1) := by decide +kernel
theorem dX9_behindUnit_78 : decode cX9_behindUnit 78 = .ok (.dup, 1) := by decide +kernel
theorem dX9_behindUnit_79 : decode cX9_behindUnit 79 = .ok (.getfield 342, 3) := by decide +kernel
theorem dX9_behindUnit_82 : decode cX9_behindUnit 82 = .ok (.iconst 1, 1) := by decide +kernel
theorem dX9_behindUnit_83 : decode cX9_behindUnit 83 = .ok (.isub, 1) := by decide +kernel
theorem dX9_behindUnit_84 : decode cX9_behindUnit 84 = .ok (.putfield 342, 3) := by decide +kernel
theorem dX9_behindUnit_10 : decode cX9_behindUnit 10 = .ok (.aload_n 0, 1) := by decide +kernel
theorem dX9_behindUnit_11 : decode cX9_behindUnit 11 = .ok (.invokevirtual 364, 3) := by decide +kernel
theorem dX9_behindUnit_14 : decode cX9_behindUnit 14 = .ok (.ifCond .eq 9, 3) := by decide +kernel
theorem dX9_behindUnit_17 : decode cX9_behindUnit 17 = .ok (.aload_n 0, 1) := by decide +kernel
theorem dX9_behindUnit_18 : decode cX9_behindUnit 18 = .ok (.invokevirtual 265, 3) := by decide +kernel
theorem dX9_behindUnit_21 : decode cX9_behindUnit 21 = .ok (.iconst 1, 1) := by decide +kernel
theorem dX9_behindUnit_22 : decode cX9_behindUnit 22 = .ok (.ireturn, 1) := by decide +kernel
