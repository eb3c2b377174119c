theorem dX9_e_0 : decode cX9_e 0 = .ok (.aload_n 0, 1) := by decide +kernel
theorem dX9_e_1 : decode cX9_e 1 = .ok (.iconst 0, 1) := by decide +kernel
theorem dX9_e_2 : decode cX9_e 2 = .ok (.putfield 339, 3) := by decide +kernel
theorem dX9_e_5 : decode cX9_e 5 = .ok (.aload_n 0, 1) := by decide +kernel
theorem dX9_e_6 : decode cX9_e 6 = .ok (.iconst 0, 1) := by decide +kernel
theorem dX9_e_7 : decode cX9_e 7 = .ok (.putfield 342, 3) := by decide +kernel
theorem dX9_e_10 : decode cX9_e 10 = .ok (.aload_n 0, 1) := by decide +kernel
theorem dX9_e_11 : decode cX9_e 11 = .ok (.bipush 8, 2) := by decide +kernel
theorem dX9_e_13 : decode cX9_e 13 = .ok (.iconst 0, 1) := by decide +kernel
theorem dX9_e_14 : decode cX9_e 14 = .ok (.invokevirtual 345, 3) := by decide +kernel
theorem dX9_e_17 : decode cX9_e 17 = .ok (.iconst 1, 1) := by decide +kernel
theorem dX9_e_18 : decode cX9_e 18 = .ok (.istore_n 1, 1) := by decide +kernel
theorem dX9_e_19 : decode cX9_e 19 = .ok (.aload_n 0, 1) := by decide +kernel
theorem dX9_e_20 : decode cX9_e 20 = .ok (.invokevirtual 258, 3) := by decide +kernel
theorem dX9_e_23 : decode cX9_e 23 = .ok (.ifCond .eq 29, 3) := by decide +kernel
theorem dX9_e_26 : decode cX9_e 26 = .ok (.aload_n 0, 1) := by decide +kernel
theorem dX9_e_27 : decode cX9_e 27 = .ok (.getfield 339, 3) := by decide +kernel
theorem dX9_e_30 : decode cX9_e 30 = .ok (.ifCond .le 22, 3) := by decide +kernel
theorem dX9_e_52 : decode cX9_e 52 = .ok (.return_, 1) := by decide +kernel
theorem dX9_e_33 : decode cX9_e 33 = .ok (.iload_n 1, 1) := by decide +kernel
theorem dX9_e_34 : decode cX9_e 34 = .ok (.ifCond .eq 10, 3) := by decide +kernel
theorem dX9_e_44 : decode cX9_e 44 = .ok (.aload_n 0, 1) := by decide +kernel
theorem dX9_e_45 : decode cX9_e 45 = .ok (.invokevirtual 351, 3) := by decide +kernel
theorem dX9_e_48 : decode cX9_e 48 = .ok (.istore_n 1, 1) := by decide +kernel
theorem dX9_e_49 : decode cX9_e 49 = .ok (.goto (-30), 3) := by decide +kernel
theorem dX9_e_37 : decode cX9_e 37 = .ok (.aload_n 0, 1) := by decide +kernel
theorem dX9_e_38 : decode cX9_e 38 = .ok (.invokevirtual 348, 3) := by decide +kernel
theorem dX9_e_41 : decode cX9_e 41 = .ok (.goto 7, 3) := by decide +kernel
theorem dX9_readWalk_0 : decode cX9_readWalk 0 = .ok (.iconst 4, 1) := by decide +kernel
theorem dX9_readWalk_1 : decode cX9_readWalk 1 = .ok (.aload_n 0, 1) := by decide +kernel
theorem dX9_readWalk_2 : decode cX9_readWalk 2 = .ok (.getfield 279, 3) := by decide +kernel
theorem dX9_readWalk_5 : decode cX9_readWalk 5 = .ok (.imul, 1) := by decide +kernel
theorem dX9_readWalk_6 : decode cX9_readWalk 6 = .ok (.aload_n 0, 1) := by decide +kernel
theorem dX9_readWalk_7 : decode cX9_readWalk 7 = .ok (.getfield 27, 3) := by decide +kernel
theorem dX9_readWalk_10 : decode cX9_readWalk 10 = .ok (.aload_n 0, 1) := by decide +kernel
theorem dX9_readWalk_11 : decode cX9_readWalk 11 = .ok (.getfield 279, 3) := by decide +kernel
theorem dX9_readWalk_14 : decode cX9_readWalk 14 = .ok (.iaload, 1) := by decide +kernel
theorem dX9_readWalk_15 : decode cX9_readWalk 15 = .ok (.iadd, 1) := by decide +kernel
theorem dX9_readWalk_16 : decode cX9_readWalk 16 = .ok (.istore_n 1, 1) := by decide +kernel
theorem dX9_readWalk_17 : decode cX9_readWalk 17 = .ok (.aload_n 0, 1) := by decide +kernel
theorem dX9_readWalk_18 : decode cX9_readWalk 18 = .ok (.getfield 59, 3) := by decide +kernel
theorem dX9_readWalk_21 : decode cX9_readWalk 21 = .ok (.iload_n 1, 1) := by decide +kernel
theorem dX9_readWalk_22 : decode cX9_readWalk 22 = .ok (.aload_n 0, 1) := by decide +kernel
theorem dX9_readWalk_23 : decode cX9_readWalk 23 = .ok (.aload_n 0, 1) := by decide +kernel
theorem dX9_readWalk_24 : decode cX9_readWalk 24 = .ok (.getfield 59, 3) := by decide +kernel
theorem dX9_readWalk_27 : decode cX9_readWalk 27 = .ok (.iconst 4, 1) := by decide +kernel
theorem dX9_readWalk_28 : decode cX9_readWalk 28 = .ok (.aload_n 0, 1) := by decide +kernel
theorem dX9_readWalk_29 : decode cX9_readWalk 29 = .ok (.getfield 279, 3) := by decide +kernel
theorem dX9_readWalk_32 : decode cX9_readWalk 32 = .ok (.imul, 1) := by decide +kernel
theorem dX9_readWalk_33 : decode cX9_readWalk 33 = .ok (.aload_n 0, 1) := by decide +kernel
theorem dX9_readWalk_34 : decode cX9_readWalk 34 = .ok (.getfield 27, 3) := by decide +kernel
theorem dX9_readWalk_37 : decode cX9_readWalk 37 = .ok (.aload_n 0, 1) := by decide +kernel
theorem dX9_readWalk_38 : decode cX9_readWalk 38 = .ok (.getfield 279, 3) := by decide +kernel
theorem dX9_readWalk_41 : decode cX9_readWalk 41 = .ok (.iaload, 1) := by decide +kernel
theorem dX9_readWalk_42 : decode cX9_readWalk 42 = .ok (.invokevirtual 325, 3) := by decide +kernel
theorem dX9_readWalk_45 : decode cX9_readWalk 45 = .ok (.lastore, 1) := by decide +kernel
theorem dX9_readWalk_46 : decode cX9_readWalk 46 = .ok (.aload_n 0, 1) := by decide +kernel
theorem dX9_readWalk_47 : decode cX9_readWalk 47 = .ok (.getfield 83, 3) := by decide +kernel
theorem dX9_readWalk_50 : decode cX9_readWalk 50 = .ok (.iload_n 1, 1) := by decide +kernel
theorem dX9_readWalk_51 : decode cX9_readWalk 51 = .ok (.iconst 0, 1) := by decide +kernel
theorem dX9_readWalk_52 : decode cX9_readWalk 52 = .ok (.iastore, 1) := by decide +kernel
theorem dX9_readWalk_53 : decode cX9_readWalk 53 = .ok (.aload_n 0, 1) := by decide +kernel
theorem dX9_readWalk_54 : decode cX9_readWalk 54 = .ok (.invokevirtual 258, 3) := by decide +kernel
theorem dX9_readWalk_57 : decode cX9_readWalk 57 = .ok (.ifCond .eq 100, 3) := by decide +kernel
theorem dX9_readWalk_60 : decode cX9_readWalk 60 = .ok (.aload_n 0, 1) := by decide +kernel
theorem dX9_readWalk_61 : decode cX9_readWalk 61 = .ok (.getfield 83, 3) := by decide +kernel
theorem dX9_readWalk_64 : decode cX9_readWalk 64 = .ok (.iload_n 1, 1) := by decide +kernel
theorem dX9_readWalk_65 : decode cX9_readWalk 65 = .ok (.iaload, 1) := by decide +kernel
theorem dX9_readWalk_66 : decode cX9_readWalk 66 = .ok (.ifCond .eq 11, 3) := by decide +kernel
theorem dX9_readWalk_77 : decode cX9_readWalk 77 = .ok (.aload_n 0, 1) := by decide +kernel
theorem dX9_readWalk_78 : decode cX9_readWalk 78 = .ok (.getfield 83, 3) := by decide +kernel
theorem dX9_readWalk_81 : decode cX9_readWalk 81 = .ok (.iload_n 1, 1) := by decide +kernel
theorem dX9_readWalk_82 : decode cX9_readWalk 82 = .ok (.iaload, 1) := by decide +kernel
theorem dX9_readWalk_83 : decode cX9_readWalk 83 = .ok (.bipush 8, 2) := by decide +kernel
theorem dX9_readWalk_85 : decode cX9_readWalk 85 = .ok (.if_icmp .ne 7, 3) := by decide +kernel
theorem dX9_readWalk_92 : decode cX9_readWalk 92 = .ok (.bipush 8, 2) := by decide +kernel
theorem dX9_readWalk_94 : decode cX9_readWalk 94 = .ok (.iload_n 1, 1) := by decide +kernel
theorem dX9_readWalk_95 : decode cX9_readWalk 95 = .ok (.imul, 1) := by decide +kernel
theorem dX9_readWalk_96 : decode cX9_readWalk 96 = .ok (.aload_n 0, 1) := by decide +kernel
theorem dX9_readWalk_97 : decode cX9_readWalk 97 = .ok (.getfield 83, 3) := by decide +kernel
theorem dX9_readWalk_100 : decode cX9_readWalk 100 = .ok (.iload_n 1, 1) := by decide +kernel
theorem dX9_readWalk_101 : decode cX9_readWalk 101 = .ok (.iaload, 1) := by decide +kernel
theorem dX9_readWalk_102 : decode cX9_readWalk 102 = .ok (.iadd, 1) := by decide +kernel
theorem dX9_readWalk_103 : decode cX9_readWalk 103 = .ok (.istore_n 2, 1) := by decide +kernel
theorem dX9_readWalk_104 : decode cX9_readWalk 104 = .ok (.aload_n 0, 1) := by decide +kernel
theorem dX9_readWalk_105 : decode cX9_readWalk 105 = .ok (.iconst 0, 1) := by decide +kernel
theorem dX9_readWalk_106 : decode cX9_readWalk 106 = .ok (.bipush 99, 2) := by decide +kernel
theorem dX9_readWalk_108 : decode cX9_readWalk 108 = .ok (.invokevirtual 275, 3) := by decide +kernel
theorem dX9_readWalk_111 : decode cX9_readWalk 111 = .ok (.istore_n 3, 1) := by decide +kernel
theorem dX9_readWalk_112 : decode cX9_readWalk 112 = .ok (.aload_n 0, 1) := by decide +kernel
theorem dX9_readWalk_113 : decode cX9_readWalk 113 = .ok (.iconst 0, 1) := by decide +kernel
theorem dX9_readWalk_114 : decode cX9_readWalk 114 = .ok (.bipush 99, 2) := by decide +kernel
theorem dX9_readWalk_116 : decode cX9_readWalk 116 = .ok (.invokevirtual 275, 3) := by decide +kernel
theorem dX9_readWalk_119 : decode cX9_readWalk 119 = .ok (.istore 4, 2) := by decide +kernel
theorem dX9_readWalk_121 : decode cX9_readWalk 121 = .ok (.aload_n 0, 1) := by decide +kernel
theorem dX9_readWalk_122 : decode cX9_readWalk 122 = .ok (.invokevirtual 258, 3) := by decide +kernel
theorem dX9_readWalk_125 : decode cX9_readWalk 125 = .ok (.ifCond .ne 4, 3) := by decide +kernel
theorem dX9_readWalk_129 : decode cX9_readWalk 129 = .ok (.aload_n 0, 1) := by decide +kernel
theorem dX9_readWalk_130 : decode cX9_readWalk 130 = .ok (.getfield 86, 3) := by decide +kernel
theorem dX9_readWalk_133 : decode cX9_readWalk 133 = .ok (.iload_n 2, 1) := by decide +kernel
theorem dX9_readWalk_134 : decode cX9_readWalk 134 = .ok (.iload_n 3, 1) := by decide +kernel
theorem dX9_readWalk_135 : decode cX9_readWalk 135 = .ok (.iastore, 1) := by decide +kernel
theorem dX9_readWalk_136 : decode cX9_readWalk 136 = .ok (.aload_n 0, 1) := by decide +kernel
theorem dX9_readWalk_137 : decode cX9_readWalk 137 = .ok (.getfield 89, 3) := by decide +kernel
theorem dX9_readWalk_140 : decode cX9_readWalk 140 = .ok (.iload_n 2, 1) := by decide +kernel
theorem dX9_readWalk_141 : decode cX9_readWalk 141 = .ok (.iload 4, 2) := by decide +kernel
theorem dX9_readWalk_143 : decode cX9_readWalk 143 = .ok (.iastore, 1) := by decide +kernel
theorem dX9_readWalk_144 : decode cX9_readWalk 144 = .ok (.aload_n 0, 1) := by decide +kernel
theorem dX9_readWalk_145 : decode cX9_readWalk 145 = .ok (.getfield 83, 3) := by decide +kernel
theorem dX9_readWalk_148 : decode cX9_readWalk 148 = .ok (.iload_n 1, 1) := by decide +kernel
theorem dX9_readWalk_149 : decode cX9_readWalk 149 = .ok (.dup2, 1) := by decide +kernel
theorem dX9_readWalk_150 : decode cX9_readWalk 150 = .ok (.iaload, 1) := by decide +kernel
theorem dX9_readWalk_151 : decode cX9_readWalk 151 = .ok (.iconst 1, 1) := by decide +kernel
theorem dX9_readWalk_152 : decode cX9_readWalk 152 = .ok (.iadd, 1) := by decide +kernel
theorem dX9_readWalk_153 : decode cX9_readWalk 153 = .ok (.iastore, 1) := by decide +kernel
theorem dX9_readWalk_154 : decode cX9_readWalk 154 = .ok (.goto (-101), 3) := by decide +kernel
theorem dX9_readWalk_128 : decode cX9_readWalk 128 = .ok (.return_, 1) := by decide +kernel
theorem dX9_readWalk_88 : decode cX9_readWalk 88 = .ok (.aload_n 0, 1) := by decide +kernel
theorem dX9_readWalk_89 : decode cX9_readWalk 89 = .ok (.invokevirtual 265, 3) := by decide +kernel
theorem dX9_readWalk_69 : decode cX9_readWalk 69 = .ok (.aload_n 0, 1) := by decide +kernel
theorem dX9_readWalk_70 : decode cX9_readWalk 70 = .ok (.getfield 230, 3) := by decide +kernel
theorem dX9_readWalk_73 : decode cX9_readWalk 73 = .ok (.iconst 4, 1) := by decide +kernel
theorem dX9_readWalk_74 : decode cX9_readWalk 74 = .ok (.if_icmp .ne 83, 3) := by decide +kernel
theorem dX9_readWalk_157 : decode cX9_readWalk 157 = .ok (.aload_n 0, 1) := by decide +kernel
theorem dX9_readWalk_158 : decode cX9_readWalk 158 = .ok (.getfield 27, 3) := by decide +kernel
theorem dX9_readWalk_161 : decode cX9_readWalk 161 = .ok (.aload_n 0, 1) := by decide +kernel
theorem dX9_readWalk_162 : decode cX9_readWalk 162 = .ok (.getfield 279, 3) := by decide +kernel
theorem dX9_readWalk_165 : decode cX9_readWalk 165 = .ok (.dup2, 1) := by decide +kernel
theorem dX9_readWalk_166 : decode cX9_readWalk 166 = .ok (.iaload, 1) := by decide +kernel
theorem dX9_readWalk_167 : decode cX9_readWalk 167 = .ok (.iconst 1, 1) := by decide +kernel
theorem dX9_readWalk_168 : decode cX9_readWalk 168 = .ok (.iadd, 1) := by decide +kernel
theorem dX9_readWalk_169 : decode cX9_readWalk 169 = .ok (.iastore, 1) := by decide +kernel
theorem dX9_readWalk_170 : decode cX9_readWalk 170 = .ok (.return_, 1) := by decide +kernel
