theorem dX9_readKnot_0 : decode cX9_readKnot 0 = .ok (.bipush 6, 2) := by decide +kernel
theorem dX9_readKnot_2 : decode cX9_readKnot 2 = .ok (.aload_n 0, 1) := by decide +kernel
theorem dX9_readKnot_3 : decode cX9_readKnot 3 = .ok (.getfield 279, 3) := by decide +kernel
theorem dX9_readKnot_6 : decode cX9_readKnot 6 = .ok (.imul, 1) := by decide +kernel
theorem dX9_readKnot_7 : decode cX9_readKnot 7 = .ok (.aload_n 0, 1) := by decide +kernel
theorem dX9_readKnot_8 : decode cX9_readKnot 8 = .ok (.getfield 20, 3) := by decide +kernel
theorem dX9_readKnot_11 : decode cX9_readKnot 11 = .ok (.aload_n 0, 1) := by decide +kernel
theorem dX9_readKnot_12 : decode cX9_readKnot 12 = .ok (.getfield 279, 3) := by decide +kernel
theorem dX9_readKnot_15 : decode cX9_readKnot 15 = .ok (.iaload, 1) := by decide +kernel
theorem dX9_readKnot_16 : decode cX9_readKnot 16 = .ok (.iadd, 1) := by decide +kernel
theorem dX9_readKnot_17 : decode cX9_readKnot 17 = .ok (.istore_n 1, 1) := by decide +kernel
theorem dX9_readKnot_18 : decode cX9_readKnot 18 = .ok (.aload_n 0, 1) := by decide +kernel
theorem dX9_readKnot_19 : decode cX9_readKnot 19 = .ok (.getfield 52, 3) := by decide +kernel
theorem dX9_readKnot_22 : decode cX9_readKnot 22 = .ok (.iload_n 1, 1) := by decide +kernel
theorem dX9_readKnot_23 : decode cX9_readKnot 23 = .ok (.aload_n 0, 1) := by decide +kernel
theorem dX9_readKnot_24 : decode cX9_readKnot 24 = .ok (.aload_n 0, 1) := by decide +kernel
theorem dX9_readKnot_25 : decode cX9_readKnot 25 = .ok (.getfield 52, 3) := by decide +kernel
theorem dX9_readKnot_28 : decode cX9_readKnot 28 = .ok (.bipush 6, 2) := by decide +kernel
theorem dX9_readKnot_30 : decode cX9_readKnot 30 = .ok (.aload_n 0, 1) := by decide +kernel
theorem dX9_readKnot_31 : decode cX9_readKnot 31 = .ok (.getfield 279, 3) := by decide +kernel
theorem dX9_readKnot_34 : decode cX9_readKnot 34 = .ok (.imul, 1) := by decide +kernel
theorem dX9_readKnot_35 : decode cX9_readKnot 35 = .ok (.aload_n 0, 1) := by decide +kernel
theorem dX9_readKnot_36 : decode cX9_readKnot 36 = .ok (.getfield 20, 3) := by decide +kernel
theorem dX9_readKnot_39 : decode cX9_readKnot 39 = .ok (.aload_n 0, 1) := by decide +kernel
theorem dX9_readKnot_40 : decode cX9_readKnot 40 = .ok (.getfield 279, 3) := by decide +kernel
theorem dX9_readKnot_43 : decode cX9_readKnot 43 = .ok (.iaload, 1) := by decide +kernel
theorem dX9_readKnot_44 : decode cX9_readKnot 44 = .ok (.invokevirtual 325, 3) := by decide +kernel
theorem dX9_readKnot_47 : decode cX9_readKnot 47 = .ok (.lastore, 1) := by decide +kernel
theorem dX9_readKnot_48 : decode cX9_readKnot 48 = .ok (.aload_n 0, 1) := by decide +kernel
theorem dX9_readKnot_49 : decode cX9_readKnot 49 = .ok (.getfield 68, 3) := by decide +kernel
theorem dX9_readKnot_52 : decode cX9_readKnot 52 = .ok (.iload_n 1, 1) := by decide +kernel
theorem dX9_readKnot_53 : decode cX9_readKnot 53 = .ok (.iconst 0, 1) := by decide +kernel
theorem dX9_readKnot_54 : decode cX9_readKnot 54 = .ok (.iastore, 1) := by decide +kernel
theorem dX9_readKnot_55 : decode cX9_readKnot 55 = .ok (.aload_n 0, 1) := by decide +kernel
theorem dX9_readKnot_56 : decode cX9_readKnot 56 = .ok (.getfield 71, 3) := by decide +kernel
theorem dX9_readKnot_59 : decode cX9_readKnot 59 = .ok (.iload_n 1, 1) := by decide +kernel
theorem dX9_readKnot_60 : decode cX9_readKnot 60 = .ok (.iconst 0, 1) := by decide +kernel
theorem dX9_readKnot_61 : decode cX9_readKnot 61 = .ok (.iastore, 1) := by decide +kernel
theorem dX9_readKnot_62 : decode cX9_readKnot 62 = .ok (.aload_n 0, 1) := by decide +kernel
theorem dX9_readKnot_63 : decode cX9_readKnot 63 = .ok (.invokevirtual 258, 3) := by decide +kernel
theorem dX9_readKnot_66 : decode cX9_readKnot 66 = .ok (.ifCond .eq 14, 3) := by decide +kernel
theorem dX9_readKnot_69 : decode cX9_readKnot 69 = .ok (.aload_n 0, 1) := by decide +kernel
theorem dX9_readKnot_70 : decode cX9_readKnot 70 = .ok (.invokevirtual 329, 3) := by decide +kernel
theorem dX9_readKnot_73 : decode cX9_readKnot 73 = .ok (.ifCond .ne 7, 3) := by decide +kernel
theorem dX9_readKnot_80 : decode cX9_readKnot 80 = .ok (.aload_n 0, 1) := by decide +kernel
theorem dX9_readKnot_81 : decode cX9_readKnot 81 = .ok (.invokevirtual 258, 3) := by decide +kernel
theorem dX9_readKnot_84 : decode cX9_readKnot 84 = .ok (.ifCond .eq 81, 3) := by decide +kernel
theorem dX9_readKnot_87 : decode cX9_readKnot 87 = .ok (.aload_n 0, 1) := by decide +kernel
theorem dX9_readKnot_88 : decode cX9_readKnot 88 = .ok (.invokevirtual 329, 3) := by decide +kernel
theorem dX9_readKnot_91 : decode cX9_readKnot 91 = .ok (.ifCond .eq 74, 3) := by decide +kernel
theorem dX9_readKnot_94 : decode cX9_readKnot 94 = .ok (.aload_n 0, 1) := by decide +kernel
theorem dX9_readKnot_95 : decode cX9_readKnot 95 = .ok (.getfield 71, 3) := by decide +kernel
theorem dX9_readKnot_98 : decode cX9_readKnot 98 = .ok (.iload_n 1, 1) := by decide +kernel
theorem dX9_readKnot_99 : decode cX9_readKnot 99 = .ok (.iaload, 1) := by decide +kernel
theorem dX9_readKnot_100 : decode cX9_readKnot 100 = .ok (.bipush 12, 2) := by decide +kernel
theorem dX9_readKnot_102 : decode cX9_readKnot 102 = .ok (.if_icmp .ne 7, 3) := by decide +kernel
theorem dX9_readKnot_109 : decode cX9_readKnot 109 = .ok (.aload_n 0, 1) := by decide +kernel
theorem dX9_readKnot_110 : decode cX9_readKnot 110 = .ok (.invokevirtual 258, 3) := by decide +kernel
theorem dX9_readKnot_113 : decode cX9_readKnot 113 = .ok (.ifCond .ne 4, 3) := by decide +kernel
theorem dX9_readKnot_117 : decode cX9_readKnot 117 = .ok (.aload_n 0, 1) := by decide +kernel
theorem dX9_readKnot_118 : decode cX9_readKnot 118 = .ok (.getfield 68, 3) := by decide +kernel
theorem dX9_readKnot_121 : decode cX9_readKnot 121 = .ok (.iload_n 1, 1) := by decide +kernel
theorem dX9_readKnot_122 : decode cX9_readKnot 122 = .ok (.dup2, 1) := by decide +kernel
theorem dX9_readKnot_123 : decode cX9_readKnot 123 = .ok (.iaload, 1) := by decide +kernel
theorem dX9_readKnot_124 : decode cX9_readKnot 124 = .ok (.aload_n 0, 1) := by decide +kernel
theorem dX9_readKnot_125 : decode cX9_readKnot 125 = .ok (.ldc2_w 180, 3) := by decide +kernel
theorem dX9_readKnot_128 : decode cX9_readKnot 128 = .ok (.invokevirtual 268, 3) := by decide +kernel
theorem dX9_readKnot_131 : decode cX9_readKnot 131 = .ok (.ifCond .eq 14, 3) := by decide +kernel
theorem dX9_readKnot_134 : decode cX9_readKnot 134 = .ok (.iconst 1, 1) := by decide +kernel
theorem dX9_readKnot_135 : decode cX9_readKnot 135 = .ok (.aload_n 0, 1) := by decide +kernel
theorem dX9_readKnot_136 : decode cX9_readKnot 136 = .ok (.getfield 71, 3) := by decide +kernel
theorem dX9_readKnot_139 : decode cX9_readKnot 139 = .ok (.iload_n 1, 1) := by decide +kernel
theorem dX9_readKnot_140 : decode cX9_readKnot 140 = .ok (.iaload, 1) := by decide +kernel
theorem dX9_readKnot_141 : decode cX9_readKnot 141 = .ok (.ishl, 1) := by decide +kernel
theorem dX9_readKnot_142 : decode cX9_readKnot 142 = .ok (.goto 4, 3) := by decide +kernel
theorem dX9_readKnot_146 : decode cX9_readKnot 146 = .ok (.ior, 1) := by decide +kernel
theorem dX9_readKnot_147 : decode cX9_readKnot 147 = .ok (.iastore, 1) := by decide +kernel
theorem dX9_readKnot_148 : decode cX9_readKnot 148 = .ok (.aload_n 0, 1) := by decide +kernel
theorem dX9_readKnot_149 : decode cX9_readKnot 149 = .ok (.getfield 71, 3) := by decide +kernel
theorem dX9_readKnot_152 : decode cX9_readKnot 152 = .ok (.iload_n 1, 1) := by decide +kernel
theorem dX9_readKnot_153 : decode cX9_readKnot 153 = .ok (.dup2, 1) := by decide +kernel
theorem dX9_readKnot_154 : decode cX9_readKnot 154 = .ok (.iaload, 1) := by decide +kernel
theorem dX9_readKnot_155 : decode cX9_readKnot 155 = .ok (.iconst 1, 1) := by decide +kernel
theorem dX9_readKnot_156 : decode cX9_readKnot 156 = .ok (.iadd, 1) := by decide +kernel
theorem dX9_readKnot_157 : decode cX9_readKnot 157 = .ok (.iastore, 1) := by decide +kernel
theorem dX9_readKnot_158 : decode cX9_readKnot 158 = .ok (.aload_n 0, 1) := by decide +kernel
theorem dX9_readKnot_159 : decode cX9_readKnot 159 = .ok (.invokevirtual 262, 3) := by decide +kernel
theorem dX9_readKnot_162 : decode cX9_readKnot 162 = .ok (.goto (-82), 3) := by decide +kernel
theorem dX9_readKnot_145 : decode cX9_readKnot 145 = .ok (.iconst 0, 1) := by decide +kernel
theorem dX9_readKnot_105 : decode cX9_readKnot 105 = .ok (.aload_n 0, 1) := by decide +kernel
theorem dX9_readKnot_106 : decode cX9_readKnot 106 = .ok (.invokevirtual 265, 3) := by decide +kernel
theorem dX9_readKnot_116 : decode cX9_readKnot 116 = .ok (.return_, 1) := by decide +kernel
theorem dX9_readKnot_165 : decode cX9_readKnot 165 = .ok (.aload_n 0, 1) := by decide +kernel
theorem dX9_readKnot_166 : decode cX9_readKnot 166 = .ok (.getfield 20, 3) := by decide +kernel
theorem dX9_readKnot_169 : decode cX9_readKnot 169 = .ok (.aload_n 0, 1) := by decide +kernel
theorem dX9_readKnot_170 : decode cX9_readKnot 170 = .ok (.getfield 279, 3) := by decide +kernel
theorem dX9_readKnot_173 : decode cX9_readKnot 173 = .ok (.dup2, 1) := by decide +kernel
theorem dX9_readKnot_174 : decode cX9_readKnot 174 = .ok (.iaload, 1) := by decide +kernel
theorem dX9_readKnot_175 : decode cX9_readKnot 175 = .ok (.iconst 1, 1) := by decide +kernel
theorem dX9_readKnot_176 : decode cX9_readKnot 176 = .ok (.iadd, 1) := by decide +kernel
theorem dX9_readKnot_177 : decode cX9_readKnot 177 = .ok (.iastore, 1) := by decide +kernel
theorem dX9_readKnot_178 : decode cX9_readKnot 178 = .ok (.return_, 1) := by decide +kernel
theorem dX9_readKnot_76 : decode cX9_readKnot 76 = .ok (.aload_n 0, 1) := by decide +kernel
theorem dX9_readKnot_77 : decode cX9_readKnot 77 = .ok (.invokevirtual 265, 3) := by decide +kernel
theorem dX9_readCord_0 : decode cX9_readCord 0 = .ok (.iconst 4, 1) := by decide +kernel
theorem dX9_readCord_1 : decode cX9_readCord 1 = .ok (.aload_n 0, 1) := by decide +kernel
theorem dX9_readCord_2 : decode cX9_readCord 2 = .ok (.getfield 279, 3) := by decide +kernel
theorem dX9_readCord_5 : decode cX9_readCord 5 = .ok (.imul, 1) := by decide +kernel
theorem dX9_readCord_6 : decode cX9_readCord 6 = .ok (.aload_n 0, 1) := by decide +kernel
theorem dX9_readCord_7 : decode cX9_readCord 7 = .ok (.getfield 24, 3) := by decide +kernel
theorem dX9_readCord_10 : decode cX9_readCord 10 = .ok (.aload_n 0, 1) := by decide +kernel
theorem dX9_readCord_11 : decode cX9_readCord 11 = .ok (.getfield 279, 3) := by decide +kernel
theorem dX9_readCord_14 : decode cX9_readCord 14 = .ok (.iaload, 1) := by decide +kernel
theorem dX9_readCord_15 : decode cX9_readCord 15 = .ok (.iadd, 1) := by decide +kernel
theorem dX9_readCord_16 : decode cX9_readCord 16 = .ok (.istore_n 1, 1) := by decide +kernel
theorem dX9_readCord_17 : decode cX9_readCord 17 = .ok (.aload_n 0, 1) := by decide +kernel
theorem dX9_readCord_18 : decode cX9_readCord 18 = .ok (.getfield 56, 3) := by decide +kernel
theorem dX9_readCord_21 : decode cX9_readCord 21 = .ok (.iload_n 1, 1) := by decide +kernel
theorem dX9_readCord_22 : decode cX9_readCord 22 = .ok (.aload_n 0, 1) := by decide +kernel
theorem dX9_readCord_23 : decode cX9_readCord 23 = .ok (.aload_n 0, 1) := by decide +kernel
theorem dX9_readCord_24 : decode cX9_readCord 24 = .ok (.getfield 56, 3) := by decide +kernel
theorem dX9_readCord_27 : decode cX9_readCord 27 = .ok (.iconst 4, 1) := by decide +kernel
theorem dX9_readCord_28 : decode cX9_readCord 28 = .ok (.aload_n 0, 1) := by decide +kernel
theorem dX9_readCord_29 : decode cX9_readCord 29 = .ok (.getfield 279, 3) := by decide +kernel
theorem dX9_readCord_32 : decode cX9_readCord 32 = .ok (.imul, 1) := by decide +kernel
theorem dX9_readCord_33 : decode cX9_readCord 33 = .ok (.aload_n 0, 1) := by decide +kernel
theorem dX9_readCord_34 : decode cX9_readCord 34 = .ok (.getfield 24, 3) := by decide +kernel
theorem dX9_readCord_37 : decode cX9_readCord 37 = .ok (.aload_n 0, 1) := by decide +kernel
theorem dX9_readCord_38 : decode cX9_readCord 38 = .ok (.getfield 279, 3) := by decide +kernel
theorem dX9_readCord_41 : decode cX9_readCord 41 = .ok (.iaload, 1) := by decide +kernel
theorem dX9_readCord_42 : decode cX9_readCord 42 = .ok (.invokevirtual 325, 3) := by decide +kernel
theorem dX9_readCord_45 : decode cX9_readCord 45 = .ok (.lastore, 1) := by decide +kernel
theorem dX9_readCord_46 : decode cX9_readCord 46 = .ok (.aload_n 0, 1) := by decide +kernel
theorem dX9_readCord_47 : decode cX9_readCord 47 = .ok (.getfield 74, 3) := by decide +kernel
theorem dX9_readCord_50 : decode cX9_readCord 50 = .ok (.iload_n 1, 1) := by decide +kernel
theorem dX9_readCord_51 : decode cX9_readCord 51 = .ok (.aload_n 0, 1) := by decide +kernel
theorem dX9_readCord_52 : decode cX9_readCord 52 = .ok (.ldc2_w 184, 3) := by decide +kernel
theorem dX9_readCord_55 : decode cX9_readCord 55 = .ok (.iconst 0, 1) := by decide +kernel
theorem dX9_readCord_56 : decode cX9_readCord 56 = .ok (.bipush 99, 2) := by decide +kernel
theorem dX9_readCord_58 : decode cX9_readCord 58 = .ok (.invokevirtual 332, 3) := by decide +kernel
theorem dX9_readCord_61 : decode cX9_readCord 61 = .ok (.iastore, 1) := by decide +kernel
theorem dX9_readCord_62 : decode cX9_readCord 62 = .ok (.aload_n 0, 1) := by decide +kernel
theorem dX9_readCord_63 : decode cX9_readCord 63 = .ok (.getfield 77, 3) := by decide +kernel
theorem dX9_readCord_66 : decode cX9_readCord 66 = .ok (.iload_n 1, 1) := by decide +kernel
theorem dX9_readCord_67 : decode cX9_readCord 67 = .ok (.aload_n 0, 1) := by decide +kernel
theorem dX9_readCord_68 : decode cX9_readCord 68 = .ok (.ldc2_w 186, 3) := by decide +kernel
theorem dX9_readCord_71 : decode cX9_readCord 71 = .ok (.iconst 0, 1) := by decide +kernel
theorem dX9_readCord_72 : decode cX9_readCord 72 = .ok (.bipush 99, 2) := by decide +kernel
theorem dX9_readCord_74 : decode cX9_readCord 74 = .ok (.invokevirtual 332, 3) := by decide +kernel
theorem dX9_readCord_77 : decode cX9_readCord 77 = .ok (.iastore, 1) := by decide +kernel
theorem dX9_readCord_78 : decode cX9_readCord 78 = .ok (.aload_n 0, 1) := by decide +kernel
theorem dX9_readCord_79 : decode cX9_readCord 79 = .ok (.getfield 80, 3) := by decide +kernel
theorem dX9_readCord_82 : decode cX9_readCord 82 = .ok (.iload_n 1, 1) := by decide +kernel
theorem dX9_readCord_83 : decode cX9_readCord 83 = .ok (.aload_n 0, 1) := by decide +kernel
theorem dX9_readCord_84 : decode cX9_readCord 84 = .ok (.ldc2_w 188, 3) := by decide +kernel
theorem dX9_readCord_87 : decode cX9_readCord 87 = .ok (.iconst 1, 1) := by decide +kernel
theorem dX9_readCord_88 : decode cX9_readCord 88 = .ok (.sipush 999, 3) := by decide +kernel
theorem dX9_readCord_91 : decode cX9_readCord 91 = .ok (.invokevirtual 332, 3) := by decide +kernel
theorem dX9_readCord_94 : decode cX9_readCord 94 = .ok (.iastore, 1) := by decide +kernel
theorem dX9_readCord_95 : decode cX9_readCord 95 = .ok (.aload_n 0, 1) := by decide +kernel
theorem dX9_readCord_96 : decode cX9_readCord 96 = .ok (.getfield 24, 3) := by decide +kernel
theorem dX9_readCord_99 : decode cX9_readCord 99 = .ok (.aload_n 0, 1) := by decide +kernel
theorem dX9_readCord_100 : decode cX9_readCord 100 = .ok (.getfield 279, 3) := by decide +kernel
theorem dX9_readCord_103 : decode cX9_readCord 103 = .ok (.dup2, 1) := by decide +kernel
theorem dX9_readCord_104 : decode cX9_readCord 104 = .ok (.iaload, 1) := by decide +kernel
theorem dX9_readCord_105 : decode cX9_readCord 105 = .ok (.iconst 1, 1) := by decide +kernel
theorem dX9_readCord_106 : decode cX9_readCord 106 = .ok (.iadd, 1) := by decide +kernel
theorem dX9_readCord_107 : decode cX9_readCord 107 = .ok (.iastore, 1) := by decide +kernel
theorem dX9_readCord_108 : decode cX9_readCord 108 = .ok (.return_, 1) := by decide +kernel
theorem dX9_readWant_0 : decode cX9_readWant 0 = .ok (.iconst 4, 1) := by decide +kernel
theorem dX9_readWant_1 : decode cX9_readWant 1 = .ok (.aload_n 0, 1) := by decide +kernel
theorem dX9_readWant_2 : decode cX9_readWant 2 = .ok (.getfield 279, 3) := by decide +kernel
theorem dX9_readWant_5 : decode cX9_readWant 5 = .ok (.imul, 1) := by decide +kernel
theorem dX9_readWant_6 : decode cX9_readWant 6 = .ok (.aload_n 0, 1) := by decide +kernel
theorem dX9_readWant_7 : decode cX9_readWant 7 = .ok (.getfield 33, 3) := by decide +kernel
theorem dX9_readWant_10 : decode cX9_readWant 10 = .ok (.aload_n 0, 1) := by decide +kernel
theorem dX9_readWant_11 : decode cX9_readWant 11 = .ok (.getfield 279, 3) := by decide +kernel
theorem dX9_readWant_14 : decode cX9_readWant 14 = .ok (.iaload, 1) := by decide +kernel
theorem dX9_readWant_15 : decode cX9_readWant 15 = .ok (.iadd, 1) := by decide +kernel
theorem dX9_readWant_16 : decode cX9_readWant 16 = .ok (.istore_n 1, 1) := by decide +kernel
theorem dX9_readWant_17 : decode cX9_readWant 17 = .ok (.aload_n 0, 1) := by decide +kernel
theorem dX9_readWant_18 : decode cX9_readWant 18 = .ok (.getfield 65, 3) := by decide +kernel
theorem dX9_readWant_21 : decode cX9_readWant 21 = .ok (.iload_n 1, 1) := by decide +kernel
theorem dX9_readWant_22 : decode cX9_readWant 22 = .ok (.aload_n 0, 1) := by decide +kernel
theorem dX9_readWant_23 : decode cX9_readWant 23 = .ok (.aload_n 0, 1) := by decide +kernel
theorem dX9_readWant_24 : decode cX9_readWant 24 = .ok (.getfield 65, 3) := by decide +kernel
theorem dX9_readWant_27 : decode cX9_readWant 27 = .ok (.iconst 4, 1) := by decide +kernel
theorem dX9_readWant_28 : decode cX9_readWant 28 = .ok (.aload_n 0, 1) := by decide +kernel
theorem dX9_readWant_29 : decode cX9_readWant 29 = .ok (.getfield 279, 3) := by decide +kernel
theorem dX9_readWant_32 : decode cX9_readWant 32 = .ok (.imul, 1) := by decide +kernel
theorem dX9_readWant_33 : decode cX9_readWant 33 = .ok (.aload_n 0, 1) := by decide +kernel
theorem dX9_readWant_34 : decode cX9_readWant 34 = .ok (.getfield 33, 3) := by decide +kernel
theorem dX9_readWant_37 : decode cX9_readWant 37 = .ok (.aload_n 0, 1) := by decide +kernel
theorem dX9_readWant_38 : decode cX9_readWant 38 = .ok (.getfield 279, 3) := by decide +kernel
theorem dX9_readWant_41 : decode cX9_readWant 41 = .ok (.iaload, 1) := by decide +kernel
theorem dX9_readWant_42 : decode cX9_readWant 42 = .ok (.invokevirtual 325, 3) := by decide +kernel
theorem dX9_readWant_45 : decode cX9_readWant 45 = .ok (.lastore, 1) := by decide +kernel
theorem dX9_readWant_46 : decode cX9_readWant 46 = .ok (.aload_n 0, 1) := by decide +kernel
theorem dX9_readWant_47 : decode cX9_readWant 47 = .ok (.getfield 92, 3) := by decide +kernel
theorem dX9_readWant_50 : decode cX9_readWant 50 = .ok (.iload_n 1, 1) := by decide +kernel
theorem dX9_readWant_51 : decode cX9_readWant 51 = .ok (.aload_n 0, 1) := by decide +kernel
theorem dX9_readWant_52 : decode cX9_readWant 52 = .ok (.ldc2_w 204, 3) := by decide +kernel
theorem dX9_readWant_55 : decode cX9_readWant 55 = .ok (.iconst 1, 1) := by decide +kernel
theorem dX9_readWant_56 : decode cX9_readWant 56 = .ok (.sipush 2000, 3) := by decide +kernel
theorem dX9_readWant_59 : decode cX9_readWant 59 = .ok (.invokevirtual 332, 3) := by decide +kernel
theorem dX9_readWant_62 : decode cX9_readWant 62 = .ok (.iastore, 1) := by decide +kernel
theorem dX9_readWant_63 : decode cX9_readWant 63 = .ok (.aload_n 0, 1) := by decide +kernel
theorem dX9_readWant_64 : decode cX9_readWant 64 = .ok (.getfield 95, 3) := by decide +kernel
theorem dX9_readWant_67 : decode cX9_readWant 67 = .ok (.iload_n 1, 1) := by decide +kernel
theorem dX9_readWant_68 : decode cX9_readWant 68 = .ok (.aload_n 0, 1) := by decide +kernel
theorem dX9_readWant_69 : decode cX9_readWant 69 = .ok (.ldc2_w 200, 3) := by decide +kernel
theorem dX9_readWant_72 : decode cX9_readWant 72 = .ok (.iconst 0, 1) := by decide +kernel
theorem dX9_readWant_73 : decode cX9_readWant 73 = .ok (.sipush 999, 3) := by decide +kernel
theorem dX9_readWant_76 : decode cX9_readWant 76 = .ok (.invokevirtual 332, 3) := by decide +kernel
theorem dX9_readWant_79 : decode cX9_readWant 79 = .ok (.iastore, 1) := by decide +kernel
theorem dX9_readWant_80 : decode cX9_readWant 80 = .ok (.aload_n 0, 1) := by decide +kernel
theorem dX9_readWant_81 : decode cX9_readWant 81 = .ok (.getfield 33, 3) := by decide +kernel
theorem dX9_readWant_84 : decode cX9_readWant 84 = .ok (.aload_n 0, 1) := by decide +kernel
theorem dX9_readWant_85 : decode cX9_readWant 85 = .ok (.getfield 279, 3) := by decide +kernel
theorem dX9_readWant_88 : decode cX9_readWant 88 = .ok (.dup2, 1) := by decide +kernel
theorem dX9_readWant_89 : decode cX9_readWant 89 = .ok (.iaload, 1) := by decide +kernel
theorem dX9_readWant_90 : decode cX9_readWant 90 = .ok (.iconst 1, 1) := by decide +kernel
theorem dX9_readWant_91 : decode cX9_readWant 91 = .ok (.iadd, 1) := by decide +kernel
theorem dX9_readWant_92 : decode cX9_readWant 92 = .ok (.iastore, 1) := by decide +kernel
theorem dX9_readWant_93 : decode cX9_readWant 93 = .ok (.return_, 1) := by decide +kernel
