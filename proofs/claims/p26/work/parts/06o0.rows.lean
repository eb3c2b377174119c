theorem dX9_keep_0 : decode cX9_keep 0 = .ok (.aload_n 0, 1) := by decide +kernel
theorem dX9_keep_1 : decode cX9_keep 1 = .ok (.getfield 158, 3) := by decide +kernel
theorem dX9_keep_4 : decode cX9_keep 4 = .ok (.iload_n 1, 1) := by decide +kernel
theorem dX9_keep_5 : decode cX9_keep 5 = .ok (.aload_n 0, 1) := by decide +kernel
theorem dX9_keep_6 : decode cX9_keep 6 = .ok (.getfield 396, 3) := by decide +kernel
theorem dX9_keep_9 : decode cX9_keep 9 = .ok (.iastore, 1) := by decide +kernel
theorem dX9_keep_10 : decode cX9_keep 10 = .ok (.bipush 12, 2) := by decide +kernel
theorem dX9_keep_12 : decode cX9_keep 12 = .ok (.iload_n 1, 1) := by decide +kernel
theorem dX9_keep_13 : decode cX9_keep 13 = .ok (.imul, 1) := by decide +kernel
theorem dX9_keep_14 : decode cX9_keep 14 = .ok (.istore_n 2, 1) := by decide +kernel
theorem dX9_keep_15 : decode cX9_keep 15 = .ok (.aload_n 0, 1) := by decide +kernel
theorem dX9_keep_16 : decode cX9_keep 16 = .ok (.getfield 161, 3) := by decide +kernel
theorem dX9_keep_19 : decode cX9_keep 19 = .ok (.iload_n 2, 1) := by decide +kernel
theorem dX9_keep_20 : decode cX9_keep 20 = .ok (.aload_n 0, 1) := by decide +kernel
theorem dX9_keep_21 : decode cX9_keep 21 = .ok (.getfield 393, 3) := by decide +kernel
theorem dX9_keep_24 : decode cX9_keep 24 = .ok (.iastore, 1) := by decide +kernel
theorem dX9_keep_25 : decode cX9_keep 25 = .ok (.aload_n 0, 1) := by decide +kernel
theorem dX9_keep_26 : decode cX9_keep 26 = .ok (.getfield 161, 3) := by decide +kernel
theorem dX9_keep_29 : decode cX9_keep 29 = .ok (.iload_n 2, 1) := by decide +kernel
theorem dX9_keep_30 : decode cX9_keep 30 = .ok (.iconst 1, 1) := by decide +kernel
theorem dX9_keep_31 : decode cX9_keep 31 = .ok (.iadd, 1) := by decide +kernel
theorem dX9_keep_32 : decode cX9_keep 32 = .ok (.aload_n 0, 1) := by decide +kernel
theorem dX9_keep_33 : decode cX9_keep 33 = .ok (.getfield 399, 3) := by decide +kernel
theorem dX9_keep_36 : decode cX9_keep 36 = .ok (.iastore, 1) := by decide +kernel
theorem dX9_keep_37 : decode cX9_keep 37 = .ok (.aload_n 0, 1) := by decide +kernel
theorem dX9_keep_38 : decode cX9_keep 38 = .ok (.getfield 161, 3) := by decide +kernel
theorem dX9_keep_41 : decode cX9_keep 41 = .ok (.iload_n 2, 1) := by decide +kernel
theorem dX9_keep_42 : decode cX9_keep 42 = .ok (.iconst 2, 1) := by decide +kernel
theorem dX9_keep_43 : decode cX9_keep 43 = .ok (.iadd, 1) := by decide +kernel
theorem dX9_keep_44 : decode cX9_keep 44 = .ok (.aload_n 0, 1) := by decide +kernel
theorem dX9_keep_45 : decode cX9_keep 45 = .ok (.getfield 370, 3) := by decide +kernel
theorem dX9_keep_48 : decode cX9_keep 48 = .ok (.iastore, 1) := by decide +kernel
theorem dX9_keep_49 : decode cX9_keep 49 = .ok (.aload_n 0, 1) := by decide +kernel
theorem dX9_keep_50 : decode cX9_keep 50 = .ok (.getfield 161, 3) := by decide +kernel
theorem dX9_keep_53 : decode cX9_keep 53 = .ok (.iload_n 2, 1) := by decide +kernel
theorem dX9_keep_54 : decode cX9_keep 54 = .ok (.iconst 3, 1) := by decide +kernel
theorem dX9_keep_55 : decode cX9_keep 55 = .ok (.iadd, 1) := by decide +kernel
theorem dX9_keep_56 : decode cX9_keep 56 = .ok (.aload_n 0, 1) := by decide +kernel
theorem dX9_keep_57 : decode cX9_keep 57 = .ok (.getfield 373, 3) := by decide +kernel
theorem dX9_keep_60 : decode cX9_keep 60 = .ok (.iastore, 1) := by decide +kernel
theorem dX9_keep_61 : decode cX9_keep 61 = .ok (.aload_n 0, 1) := by decide +kernel
theorem dX9_keep_62 : decode cX9_keep 62 = .ok (.getfield 161, 3) := by decide +kernel
theorem dX9_keep_65 : decode cX9_keep 65 = .ok (.iload_n 2, 1) := by decide +kernel
theorem dX9_keep_66 : decode cX9_keep 66 = .ok (.iconst 4, 1) := by decide +kernel
theorem dX9_keep_67 : decode cX9_keep 67 = .ok (.iadd, 1) := by decide +kernel
theorem dX9_keep_68 : decode cX9_keep 68 = .ok (.aload_n 0, 1) := by decide +kernel
theorem dX9_keep_69 : decode cX9_keep 69 = .ok (.getfield 122, 3) := by decide +kernel
theorem dX9_keep_72 : decode cX9_keep 72 = .ok (.iconst 0, 1) := by decide +kernel
theorem dX9_keep_73 : decode cX9_keep 73 = .ok (.iaload, 1) := by decide +kernel
theorem dX9_keep_74 : decode cX9_keep 74 = .ok (.iastore, 1) := by decide +kernel
theorem dX9_keep_75 : decode cX9_keep 75 = .ok (.aload_n 0, 1) := by decide +kernel
theorem dX9_keep_76 : decode cX9_keep 76 = .ok (.getfield 161, 3) := by decide +kernel
theorem dX9_keep_79 : decode cX9_keep 79 = .ok (.iload_n 2, 1) := by decide +kernel
theorem dX9_keep_80 : decode cX9_keep 80 = .ok (.iconst 5, 1) := by decide +kernel
theorem dX9_keep_81 : decode cX9_keep 81 = .ok (.iadd, 1) := by decide +kernel
theorem dX9_keep_82 : decode cX9_keep 82 = .ok (.aload_n 0, 1) := by decide +kernel
theorem dX9_keep_83 : decode cX9_keep 83 = .ok (.getfield 122, 3) := by decide +kernel
theorem dX9_keep_86 : decode cX9_keep 86 = .ok (.iconst 1, 1) := by decide +kernel
theorem dX9_keep_87 : decode cX9_keep 87 = .ok (.iaload, 1) := by decide +kernel
theorem dX9_keep_88 : decode cX9_keep 88 = .ok (.iastore, 1) := by decide +kernel
theorem dX9_keep_89 : decode cX9_keep 89 = .ok (.aload_n 0, 1) := by decide +kernel
theorem dX9_keep_90 : decode cX9_keep 90 = .ok (.getfield 161, 3) := by decide +kernel
theorem dX9_keep_93 : decode cX9_keep 93 = .ok (.iload_n 2, 1) := by decide +kernel
theorem dX9_keep_94 : decode cX9_keep 94 = .ok (.bipush 6, 2) := by decide +kernel
theorem dX9_keep_96 : decode cX9_keep 96 = .ok (.iadd, 1) := by decide +kernel
theorem dX9_keep_97 : decode cX9_keep 97 = .ok (.aload_n 0, 1) := by decide +kernel
theorem dX9_keep_98 : decode cX9_keep 98 = .ok (.getfield 440, 3) := by decide +kernel
theorem dX9_keep_101 : decode cX9_keep 101 = .ok (.iastore, 1) := by decide +kernel
theorem dX9_keep_102 : decode cX9_keep 102 = .ok (.aload_n 0, 1) := by decide +kernel
theorem dX9_keep_103 : decode cX9_keep 103 = .ok (.getfield 161, 3) := by decide +kernel
theorem dX9_keep_106 : decode cX9_keep 106 = .ok (.iload_n 2, 1) := by decide +kernel
theorem dX9_keep_107 : decode cX9_keep 107 = .ok (.bipush 7, 2) := by decide +kernel
theorem dX9_keep_109 : decode cX9_keep 109 = .ok (.iadd, 1) := by decide +kernel
theorem dX9_keep_110 : decode cX9_keep 110 = .ok (.aload_n 0, 1) := by decide +kernel
theorem dX9_keep_111 : decode cX9_keep 111 = .ok (.getfield 443, 3) := by decide +kernel
theorem dX9_keep_114 : decode cX9_keep 114 = .ok (.iastore, 1) := by decide +kernel
theorem dX9_keep_115 : decode cX9_keep 115 = .ok (.aload_n 0, 1) := by decide +kernel
theorem dX9_keep_116 : decode cX9_keep 116 = .ok (.getfield 161, 3) := by decide +kernel
theorem dX9_keep_119 : decode cX9_keep 119 = .ok (.iload_n 2, 1) := by decide +kernel
theorem dX9_keep_120 : decode cX9_keep 120 = .ok (.bipush 8, 2) := by decide +kernel
theorem dX9_keep_122 : decode cX9_keep 122 = .ok (.iadd, 1) := by decide +kernel
theorem dX9_keep_123 : decode cX9_keep 123 = .ok (.aload_n 0, 1) := by decide +kernel
theorem dX9_keep_124 : decode cX9_keep 124 = .ok (.getfield 446, 3) := by decide +kernel
theorem dX9_keep_127 : decode cX9_keep 127 = .ok (.iastore, 1) := by decide +kernel
theorem dX9_keep_128 : decode cX9_keep 128 = .ok (.aload_n 0, 1) := by decide +kernel
theorem dX9_keep_129 : decode cX9_keep 129 = .ok (.getfield 161, 3) := by decide +kernel
theorem dX9_keep_132 : decode cX9_keep 132 = .ok (.iload_n 2, 1) := by decide +kernel
theorem dX9_keep_133 : decode cX9_keep 133 = .ok (.bipush 9, 2) := by decide +kernel
theorem dX9_keep_135 : decode cX9_keep 135 = .ok (.iadd, 1) := by decide +kernel
theorem dX9_keep_136 : decode cX9_keep 136 = .ok (.aload_n 0, 1) := by decide +kernel
theorem dX9_keep_137 : decode cX9_keep 137 = .ok (.getfield 449, 3) := by decide +kernel
theorem dX9_keep_140 : decode cX9_keep 140 = .ok (.iastore, 1) := by decide +kernel
theorem dX9_keep_141 : decode cX9_keep 141 = .ok (.aload_n 0, 1) := by decide +kernel
theorem dX9_keep_142 : decode cX9_keep 142 = .ok (.getfield 161, 3) := by decide +kernel
theorem dX9_keep_145 : decode cX9_keep 145 = .ok (.iload_n 2, 1) := by decide +kernel
theorem dX9_keep_146 : decode cX9_keep 146 = .ok (.bipush 10, 2) := by decide +kernel
theorem dX9_keep_148 : decode cX9_keep 148 = .ok (.iadd, 1) := by decide +kernel
theorem dX9_keep_149 : decode cX9_keep 149 = .ok (.aload_n 0, 1) := by decide +kernel
theorem dX9_keep_150 : decode cX9_keep 150 = .ok (.getfield 125, 3) := by decide +kernel
theorem dX9_keep_153 : decode cX9_keep 153 = .ok (.iastore, 1) := by decide +kernel
theorem dX9_keep_154 : decode cX9_keep 154 = .ok (.iconst 0, 1) := by decide +kernel
theorem dX9_keep_155 : decode cX9_keep 155 = .ok (.istore_n 3, 1) := by decide +kernel
theorem dX9_keep_156 : decode cX9_keep 156 = .ok (.iload_n 3, 1) := by decide +kernel
theorem dX9_keep_157 : decode cX9_keep 157 = .ok (.bipush 12, 2) := by decide +kernel
theorem dX9_keep_159 : decode cX9_keep 159 = .ok (.if_icmp .ge 23, 3) := by decide +kernel
theorem dX9_keep_182 : decode cX9_keep 182 = .ok (.return_, 1) := by decide +kernel
theorem dX9_keep_162 : decode cX9_keep 162 = .ok (.aload_n 0, 1) := by decide +kernel
theorem dX9_keep_163 : decode cX9_keep 163 = .ok (.getfield 164, 3) := by decide +kernel
theorem dX9_keep_166 : decode cX9_keep 166 = .ok (.iload_n 2, 1) := by decide +kernel
theorem dX9_keep_167 : decode cX9_keep 167 = .ok (.iload_n 3, 1) := by decide +kernel
theorem dX9_keep_168 : decode cX9_keep 168 = .ok (.iadd, 1) := by decide +kernel
theorem dX9_keep_169 : decode cX9_keep 169 = .ok (.aload_n 0, 1) := by decide +kernel
theorem dX9_keep_170 : decode cX9_keep 170 = .ok (.getfield 119, 3) := by decide +kernel
theorem dX9_keep_173 : decode cX9_keep 173 = .ok (.iload_n 3, 1) := by decide +kernel
theorem dX9_keep_174 : decode cX9_keep 174 = .ok (.iaload, 1) := by decide +kernel
theorem dX9_keep_175 : decode cX9_keep 175 = .ok (.iastore, 1) := by decide +kernel
theorem dX9_keep_176 : decode cX9_keep 176 = .ok (.iinc 3 1, 3) := by decide +kernel
theorem dX9_keep_179 : decode cX9_keep 179 = .ok (.goto (-23), 3) := by decide +kernel
theorem dX9_bring_0 : decode cX9_bring 0 = .ok (.aload_n 0, 1) := by decide +kernel
theorem dX9_bring_1 : decode cX9_bring 1 = .ok (.aload_n 0, 1) := by decide +kernel
theorem dX9_bring_2 : decode cX9_bring 2 = .ok (.getfield 158, 3) := by decide +kernel
theorem dX9_bring_5 : decode cX9_bring 5 = .ok (.iload_n 1, 1) := by decide +kernel
theorem dX9_bring_6 : decode cX9_bring 6 = .ok (.iaload, 1) := by decide +kernel
theorem dX9_bring_7 : decode cX9_bring 7 = .ok (.putfield 396, 3) := by decide +kernel
theorem dX9_bring_10 : decode cX9_bring 10 = .ok (.bipush 12, 2) := by decide +kernel
theorem dX9_bring_12 : decode cX9_bring 12 = .ok (.iload_n 1, 1) := by decide +kernel
theorem dX9_bring_13 : decode cX9_bring 13 = .ok (.imul, 1) := by decide +kernel
theorem dX9_bring_14 : decode cX9_bring 14 = .ok (.istore_n 2, 1) := by decide +kernel
theorem dX9_bring_15 : decode cX9_bring 15 = .ok (.aload_n 0, 1) := by decide +kernel
theorem dX9_bring_16 : decode cX9_bring 16 = .ok (.aload_n 0, 1) := by decide +kernel
theorem dX9_bring_17 : decode cX9_bring 17 = .ok (.getfield 161, 3) := by decide +kernel
theorem dX9_bring_20 : decode cX9_bring 20 = .ok (.iload_n 2, 1) := by decide +kernel
theorem dX9_bring_21 : decode cX9_bring 21 = .ok (.iaload, 1) := by decide +kernel
theorem dX9_bring_22 : decode cX9_bring 22 = .ok (.putfield 393, 3) := by decide +kernel
theorem dX9_bring_25 : decode cX9_bring 25 = .ok (.aload_n 0, 1) := by decide +kernel
theorem dX9_bring_26 : decode cX9_bring 26 = .ok (.aload_n 0, 1) := by decide +kernel
theorem dX9_bring_27 : decode cX9_bring 27 = .ok (.getfield 161, 3) := by decide +kernel
theorem dX9_bring_30 : decode cX9_bring 30 = .ok (.iload_n 2, 1) := by decide +kernel
theorem dX9_bring_31 : decode cX9_bring 31 = .ok (.iconst 1, 1) := by decide +kernel
theorem dX9_bring_32 : decode cX9_bring 32 = .ok (.iadd, 1) := by decide +kernel
theorem dX9_bring_33 : decode cX9_bring 33 = .ok (.iaload, 1) := by decide +kernel
theorem dX9_bring_34 : decode cX9_bring 34 = .ok (.putfield 399, 3) := by decide +kernel
theorem dX9_bring_37 : decode cX9_bring 37 = .ok (.aload_n 0, 1) := by decide +kernel
theorem dX9_bring_38 : decode cX9_bring 38 = .ok (.aload_n 0, 1) := by decide +kernel
theorem dX9_bring_39 : decode cX9_bring 39 = .ok (.getfield 161, 3) := by decide +kernel
theorem dX9_bring_42 : decode cX9_bring 42 = .ok (.iload_n 2, 1) := by decide +kernel
theorem dX9_bring_43 : decode cX9_bring 43 = .ok (.iconst 2, 1) := by decide +kernel
theorem dX9_bring_44 : decode cX9_bring 44 = .ok (.iadd, 1) := by decide +kernel
theorem dX9_bring_45 : decode cX9_bring 45 = .ok (.iaload, 1) := by decide +kernel
theorem dX9_bring_46 : decode cX9_bring 46 = .ok (.putfield 370, 3) := by decide +kernel
theorem dX9_bring_49 : decode cX9_bring 49 = .ok (.aload_n 0, 1) := by decide +kernel
theorem dX9_bring_50 : decode cX9_bring 50 = .ok (.aload_n 0, 1) := by decide +kernel
theorem dX9_bring_51 : decode cX9_bring 51 = .ok (.getfield 161, 3) := by decide +kernel
theorem dX9_bring_54 : decode cX9_bring 54 = .ok (.iload_n 2, 1) := by decide +kernel
theorem dX9_bring_55 : decode cX9_bring 55 = .ok (.iconst 3, 1) := by decide +kernel
theorem dX9_bring_56 : decode cX9_bring 56 = .ok (.iadd, 1) := by decide +kernel
theorem dX9_bring_57 : decode cX9_bring 57 = .ok (.iaload, 1) := by decide +kernel
theorem dX9_bring_58 : decode cX9_bring 58 = .ok (.putfield 373, 3) := by decide +kernel
theorem dX9_bring_61 : decode cX9_bring 61 = .ok (.aload_n 0, 1) := by decide +kernel
theorem dX9_bring_62 : decode cX9_bring 62 = .ok (.getfield 122, 3) := by decide +kernel
theorem dX9_bring_65 : decode cX9_bring 65 = .ok (.iconst 0, 1) := by decide +kernel
theorem dX9_bring_66 : decode cX9_bring 66 = .ok (.aload_n 0, 1) := by decide +kernel
theorem dX9_bring_67 : decode cX9_bring 67 = .ok (.getfield 161, 3) := by decide +kernel
theorem dX9_bring_70 : decode cX9_bring 70 = .ok (.iload_n 2, 1) := by decide +kernel
theorem dX9_bring_71 : decode cX9_bring 71 = .ok (.iconst 4, 1) := by decide +kernel
theorem dX9_bring_72 : decode cX9_bring 72 = .ok (.iadd, 1) := by decide +kernel
theorem dX9_bring_73 : decode cX9_bring 73 = .ok (.iaload, 1) := by decide +kernel
theorem dX9_bring_74 : decode cX9_bring 74 = .ok (.iastore, 1) := by decide +kernel
theorem dX9_bring_75 : decode cX9_bring 75 = .ok (.aload_n 0, 1) := by decide +kernel
theorem dX9_bring_76 : decode cX9_bring 76 = .ok (.getfield 122, 3) := by decide +kernel
theorem dX9_bring_79 : decode cX9_bring 79 = .ok (.iconst 1, 1) := by decide +kernel
theorem dX9_bring_80 : decode cX9_bring 80 = .ok (.aload_n 0, 1) := by decide +kernel
theorem dX9_bring_81 : decode cX9_bring 81 = .ok (.getfield 161, 3) := by decide +kernel
theorem dX9_bring_84 : decode cX9_bring 84 = .ok (.iload_n 2, 1) := by decide +kernel
theorem dX9_bring_85 : decode cX9_bring 85 = .ok (.iconst 5, 1) := by decide +kernel
theorem dX9_bring_86 : decode cX9_bring 86 = .ok (.iadd, 1) := by decide +kernel
theorem dX9_bring_87 : decode cX9_bring 87 = .ok (.iaload, 1) := by decide +kernel
theorem dX9_bring_88 : decode cX9_bring 88 = .ok (.iastore, 1) := by decide +kernel
theorem dX9_bring_89 : decode cX9_bring 89 = .ok (.aload_n 0, 1) := by decide +kernel
theorem dX9_bring_90 : decode cX9_bring 90 = .ok (.aload_n 0, 1) := by decide +kernel
theorem dX9_bring_91 : decode cX9_bring 91 = .ok (.getfield 161, 3) := by decide +kernel
theorem dX9_bring_94 : decode cX9_bring 94 = .ok (.iload_n 2, 1) := by decide +kernel
theorem dX9_bring_95 : decode cX9_bring 95 = .ok (.bipush 6, 2) := by decide +kernel
theorem dX9_bring_97 : decode cX9_bring 97 = .ok (.iadd, 1) := by decide +kernel
theorem dX9_bring_98 : decode cX9_bring 98 = .ok (.iaload, 1) := by decide +kernel
theorem dX9_bring_99 : decode cX9_bring 99 = .ok (.putfield 440, 3) := by decide +kernel
theorem dX9_bring_102 : decode cX9_bring 102 = .ok (.aload_n 0, 1) := by decide +kernel
theorem dX9_bring_103 : decode cX9_bring 103 = .ok (.aload_n 0, 1) := by decide +kernel
theorem dX9_bring_104 : decode cX9_bring 104 = .ok (.getfield 161, 3) := by decide +kernel
theorem dX9_bring_107 : decode cX9_bring 107 = .ok (.iload_n 2, 1) := by decide +kernel
theorem dX9_bring_108 : decode cX9_bring 108 = .ok (.bipush 7, 2) := by decide +kernel
theorem dX9_bring_110 : decode cX9_bring 110 = .ok (.iadd, 1) := by decide +kernel
theorem dX9_bring_111 : decode cX9_bring 111 = .ok (.iaload, 1) := by decide +kernel
theorem dX9_bring_112 : decode cX9_bring 112 = .ok (.putfield 443, 3) := by decide +kernel
theorem dX9_bring_115 : decode cX9_bring 115 = .ok (.aload_n 0, 1) := by decide +kernel
theorem dX9_bring_116 : decode cX9_bring 116 = .ok (.aload_n 0, 1) := by decide +kernel
theorem dX9_bring_117 : decode cX9_bring 117 = .ok (.getfield 161, 3) := by decide +kernel
theorem dX9_bring_120 : decode cX9_bring 120 = .ok (.iload_n 2, 1) := by decide +kernel
theorem dX9_bring_121 : decode cX9_bring 121 = .ok (.bipush 8, 2) := by decide +kernel
theorem dX9_bring_123 : decode cX9_bring 123 = .ok (.iadd, 1) := by decide +kernel
theorem dX9_bring_124 : decode cX9_bring 124 = .ok (.iaload, 1) := by decide +kernel
theorem dX9_bring_125 : decode cX9_bring 125 = .ok (.putfield 446, 3) := by decide +kernel
theorem dX9_bring_128 : decode cX9_bring 128 = .ok (.aload_n 0, 1) := by decide +kernel
theorem dX9_bring_129 : decode cX9_bring 129 = .ok (.aload_n 0, 1) := by decide +kernel
theorem dX9_bring_130 : decode cX9_bring 130 = .ok (.getfield 161, 3) := by decide +kernel
theorem dX9_bring_133 : decode cX9_bring 133 = .ok (.iload_n 2, 1) := by decide +kernel
theorem dX9_bring_134 : decode cX9_bring 134 = .ok (.bipush 9, 2) := by decide +kernel
theorem dX9_bring_136 : decode cX9_bring 136 = .ok (.iadd, 1) := by decide +kernel
theorem dX9_bring_137 : decode cX9_bring 137 = .ok (.iaload, 1) := by decide +kernel
theorem dX9_bring_138 : decode cX9_bring 138 = .ok (.putfield 449, 3) := by decide +kernel
theorem dX9_bring_141 : decode cX9_bring 141 = .ok (.aload_n 0, 1) := by decide +kernel
theorem dX9_bring_142 : decode cX9_bring 142 = .ok (.aload_n 0, 1) := by decide +kernel
theorem dX9_bring_143 : decode cX9_bring 143 = .ok (.getfield 161, 3) := by decide +kernel
theorem dX9_bring_146 : decode cX9_bring 146 = .ok (.iload_n 2, 1) := by decide +kernel
theorem dX9_bring_147 : decode cX9_bring 147 = .ok (.bipush 10, 2) := by decide +kernel
theorem dX9_bring_149 : decode cX9_bring 149 = .ok (.iadd, 1) := by decide +kernel
theorem dX9_bring_150 : decode cX9_bring 150 = .ok (.iaload, 1) := by decide +kernel
theorem dX9_bring_151 : decode cX9_bring 151 = .ok (.putfield 125, 3) := by decide +kernel
theorem dX9_bring_154 : decode cX9_bring 154 = .ok (.iconst 0, 1) := by decide +kernel
theorem dX9_bring_155 : decode cX9_bring 155 = .ok (.istore_n 3, 1) := by decide +kernel
theorem dX9_bring_156 : decode cX9_bring 156 = .ok (.iload_n 3, 1) := by decide +kernel
theorem dX9_bring_157 : decode cX9_bring 157 = .ok (.bipush 12, 2) := by decide +kernel
theorem dX9_bring_159 : decode cX9_bring 159 = .ok (.if_icmp .ge 23, 3) := by decide +kernel
theorem dX9_bring_182 : decode cX9_bring 182 = .ok (.return_, 1) := by decide +kernel
theorem dX9_bring_162 : decode cX9_bring 162 = .ok (.aload_n 0, 1) := by decide +kernel
theorem dX9_bring_163 : decode cX9_bring 163 = .ok (.getfield 119, 3) := by decide +kernel
theorem dX9_bring_166 : decode cX9_bring 166 = .ok (.iload_n 3, 1) := by decide +kernel
theorem dX9_bring_167 : decode cX9_bring 167 = .ok (.aload_n 0, 1) := by decide +kernel
theorem dX9_bring_168 : decode cX9_bring 168 = .ok (.getfield 164, 3) := by decide +kernel
theorem dX9_bring_171 : decode cX9_bring 171 = .ok (.iload_n 2, 1) := by decide +kernel
theorem dX9_bring_172 : decode cX9_bring 172 = .ok (.iload_n 3, 1) := by decide +kernel
theorem dX9_bring_173 : decode cX9_bring 173 = .ok (.iadd, 1) := by decide +kernel
theorem dX9_bring_174 : decode cX9_bring 174 = .ok (.iaload, 1) := by decide +kernel
theorem dX9_bring_175 : decode cX9_bring 175 = .ok (.iastore, 1) := by decide +kernel
theorem dX9_bring_176 : decode cX9_bring 176 = .ok (.iinc 3 1, 3) := by decide +kernel
theorem dX9_bring_179 : decode cX9_bring 179 = .ok (.goto (-23), 3) := by decide +kernel
theorem dX9_tie_0 : decode cX9_tie 0 = .ok (.aload_n 0, 1) := by decide +kernel
theorem dX9_tie_1 : decode cX9_tie 1 = .ok (.iload_n 1, 1) := by decide +kernel
theorem dX9_tie_2 : decode cX9_tie 2 = .ok (.invokevirtual 431, 3) := by decide +kernel
theorem dX9_tie_5 : decode cX9_tie 5 = .ok (.ifCond .eq 11, 3) := by decide +kernel
theorem dX9_tie_8 : decode cX9_tie 8 = .ok (.aload_n 0, 1) := by decide +kernel
theorem dX9_tie_9 : decode cX9_tie 9 = .ok (.iload_n 2, 1) := by decide +kernel
theorem dX9_tie_10 : decode cX9_tie 10 = .ok (.invokevirtual 434, 3) := by decide +kernel
theorem dX9_tie_13 : decode cX9_tie 13 = .ok (.ifCond .ne 5, 3) := by decide +kernel
theorem dX9_tie_18 : decode cX9_tie 18 = .ok (.aload_n 0, 1) := by decide +kernel
theorem dX9_tie_19 : decode cX9_tie 19 = .ok (.iload_n 1, 1) := by decide +kernel
theorem dX9_tie_20 : decode cX9_tie 20 = .ok (.iload_n 2, 1) := by decide +kernel
theorem dX9_tie_21 : decode cX9_tie 21 = .ok (.invokevirtual 437, 3) := by decide +kernel
theorem dX9_tie_24 : decode cX9_tie 24 = .ok (.aload_n 0, 1) := by decide +kernel
theorem dX9_tie_25 : decode cX9_tie 25 = .ok (.iconst 1, 1) := by decide +kernel
theorem dX9_tie_26 : decode cX9_tie 26 = .ok (.putfield 297, 3) := by decide +kernel
theorem dX9_tie_29 : decode cX9_tie 29 = .ok (.aload_n 0, 1) := by decide +kernel
theorem dX9_tie_30 : decode cX9_tie 30 = .ok (.iconst (-1), 1) := by decide +kernel
theorem dX9_tie_31 : decode cX9_tie 31 = .ok (.putfield 440, 3) := by decide +kernel
theorem dX9_tie_34 : decode cX9_tie 34 = .ok (.aload_n 0, 1) := by decide +kernel
theorem dX9_tie_35 : decode cX9_tie 35 = .ok (.iconst 0, 1) := by decide +kernel
theorem dX9_tie_36 : decode cX9_tie 36 = .ok (.putfield 443, 3) := by decide +kernel
theorem dX9_tie_39 : decode cX9_tie 39 = .ok (.aload_n 0, 1) := by decide +kernel
theorem dX9_tie_40 : decode cX9_tie 40 = .ok (.iconst 0, 1) := by decide +kernel
theorem dX9_tie_41 : decode cX9_tie 41 = .ok (.putfield 446, 3) := by decide +kernel
theorem dX9_tie_44 : decode cX9_tie 44 = .ok (.aload_n 0, 1) := by decide +kernel
theorem dX9_tie_45 : decode cX9_tie 45 = .ok (.iconst 0, 1) := by decide +kernel
theorem dX9_tie_46 : decode cX9_tie 46 = .ok (.putfield 449, 3) := by decide +kernel
theorem dX9_tie_49 : decode cX9_tie 49 = .ok (.aload_n 0, 1) := by decide +kernel
theorem dX9_tie_50 : decode cX9_tie 50 = .ok (.getfield 396, 3) := by decide +kernel
theorem dX9_tie_53 : decode cX9_tie 53 = .ok (.ireturn, 1) := by decide +kernel
theorem dX9_tie_16 : decode cX9_tie 16 = .ok (.iconst (-1), 1) := by decide +kernel
theorem dX9_tie_17 : decode cX9_tie 17 = .ok (.ireturn, 1) := by decide +kernel
theorem dX9_earnest_0 : decode cX9_earnest 0 = .ok (.bipush 8, 2) := by decide +kernel
theorem dX9_earnest_2 : decode cX9_earnest 2 = .ok (.iconst 4, 1) := by decide +kernel
theorem dX9_earnest_3 : decode cX9_earnest 3 = .ok (.aload_n 0, 1) := by decide +kernel
theorem dX9_earnest_4 : decode cX9_earnest 4 = .ok (.getfield 291, 3) := by decide +kernel
theorem dX9_earnest_7 : decode cX9_earnest 7 = .ok (.imul, 1) := by decide +kernel
theorem dX9_earnest_8 : decode cX9_earnest 8 = .ok (.iload_n 1, 1) := by decide +kernel
theorem dX9_earnest_9 : decode cX9_earnest 9 = .ok (.iadd, 1) := by decide +kernel
theorem dX9_earnest_10 : decode cX9_earnest 10 = .ok (.imul, 1) := by decide +kernel
theorem dX9_earnest_11 : decode cX9_earnest 11 = .ok (.aload_n 0, 1) := by decide +kernel
theorem dX9_earnest_12 : decode cX9_earnest 12 = .ok (.getfield 443, 3) := by decide +kernel
theorem dX9_earnest_15 : decode cX9_earnest 15 = .ok (.aload_n 0, 1) := by decide +kernel
theorem dX9_earnest_16 : decode cX9_earnest 16 = .ok (.getfield 83, 3) := by decide +kernel
theorem dX9_earnest_19 : decode cX9_earnest 19 = .ok (.iconst 4, 1) := by decide +kernel
theorem dX9_earnest_20 : decode cX9_earnest 20 = .ok (.aload_n 0, 1) := by decide +kernel
theorem dX9_earnest_21 : decode cX9_earnest 21 = .ok (.getfield 291, 3) := by decide +kernel
theorem dX9_earnest_24 : decode cX9_earnest 24 = .ok (.imul, 1) := by decide +kernel
theorem dX9_earnest_25 : decode cX9_earnest 25 = .ok (.iload_n 1, 1) := by decide +kernel
theorem dX9_earnest_26 : decode cX9_earnest 26 = .ok (.iadd, 1) := by decide +kernel
theorem dX9_earnest_27 : decode cX9_earnest 27 = .ok (.iaload, 1) := by decide +kernel
theorem dX9_earnest_28 : decode cX9_earnest 28 = .ok (.irem, 1) := by decide +kernel
theorem dX9_earnest_29 : decode cX9_earnest 29 = .ok (.iadd, 1) := by decide +kernel
theorem dX9_earnest_30 : decode cX9_earnest 30 = .ok (.istore_n 2, 1) := by decide +kernel
theorem dX9_earnest_31 : decode cX9_earnest 31 = .ok (.aload_n 0, 1) := by decide +kernel
theorem dX9_earnest_32 : decode cX9_earnest 32 = .ok (.aload_n 0, 1) := by decide +kernel
theorem dX9_earnest_33 : decode cX9_earnest 33 = .ok (.getfield 86, 3) := by decide +kernel
theorem dX9_earnest_36 : decode cX9_earnest 36 = .ok (.iload_n 2, 1) := by decide +kernel
theorem dX9_earnest_37 : decode cX9_earnest 37 = .ok (.iaload, 1) := by decide +kernel
theorem dX9_earnest_38 : decode cX9_earnest 38 = .ok (.putfield 376, 3) := by decide +kernel
theorem dX9_earnest_41 : decode cX9_earnest 41 = .ok (.aload_n 0, 1) := by decide +kernel
theorem dX9_earnest_42 : decode cX9_earnest 42 = .ok (.aload_n 0, 1) := by decide +kernel
theorem dX9_earnest_43 : decode cX9_earnest 43 = .ok (.getfield 89, 3) := by decide +kernel
theorem dX9_earnest_46 : decode cX9_earnest 46 = .ok (.iload_n 2, 1) := by decide +kernel
theorem dX9_earnest_47 : decode cX9_earnest 47 = .ok (.iaload, 1) := by decide +kernel
theorem dX9_earnest_48 : decode cX9_earnest 48 = .ok (.putfield 379, 3) := by decide +kernel
theorem dX9_earnest_51 : decode cX9_earnest 51 = .ok (.aload_n 0, 1) := by decide +kernel
theorem dX9_earnest_52 : decode cX9_earnest 52 = .ok (.getfield 39, 3) := by decide +kernel
theorem dX9_earnest_55 : decode cX9_earnest 55 = .ok (.aload_n 0, 1) := by decide +kernel
theorem dX9_earnest_56 : decode cX9_earnest 56 = .ok (.getfield 291, 3) := by decide +kernel
theorem dX9_earnest_59 : decode cX9_earnest 59 = .ok (.iaload, 1) := by decide +kernel
theorem dX9_earnest_60 : decode cX9_earnest 60 = .ok (.ifCond .le 39, 3) := by decide +kernel
theorem dX9_earnest_99 : decode cX9_earnest 99 = .ok (.aload_n 0, 1) := by decide +kernel
theorem dX9_earnest_100 : decode cX9_earnest 100 = .ok (.aload_n 0, 1) := by decide +kernel
theorem dX9_earnest_101 : decode cX9_earnest 101 = .ok (.getfield 379, 3) := by decide +kernel
theorem dX9_earnest_104 : decode cX9_earnest 104 = .ok (.ifCond .ge 7, 3) := by decide +kernel
theorem dX9_earnest_111 : decode cX9_earnest 111 = .ok (.aload_n 0, 1) := by decide +kernel
theorem dX9_earnest_112 : decode cX9_earnest 112 = .ok (.getfield 379, 3) := by decide +kernel
theorem dX9_earnest_115 : decode cX9_earnest 115 = .ok (.putfield 379, 3) := by decide +kernel
theorem dX9_earnest_118 : decode cX9_earnest 118 = .ok (.aload_n 0, 1) := by decide +kernel
theorem dX9_earnest_119 : decode cX9_earnest 119 = .ok (.dup, 1) := by decide +kernel
theorem dX9_earnest_120 : decode cX9_earnest 120 = .ok (.getfield 443, 3) := by decide +kernel
theorem dX9_earnest_123 : decode cX9_earnest 123 = .ok (.iconst 1, 1) := by decide +kernel
theorem dX9_earnest_124 : decode cX9_earnest 124 = .ok (.iadd, 1) := by decide +kernel
theorem dX9_earnest_125 : decode cX9_earnest 125 = .ok (.putfield 443, 3) := by decide +kernel
theorem dX9_earnest_128 : decode cX9_earnest 128 = .ok (.aload_n 0, 1) := by decide +kernel
theorem dX9_earnest_129 : decode cX9_earnest 129 = .ok (.dup, 1) := by decide +kernel
theorem dX9_earnest_130 : decode cX9_earnest 130 = .ok (.getfield 446, 3) := by decide +kernel
theorem dX9_earnest_133 : decode cX9_earnest 133 = .ok (.iconst 1, 1) := by decide +kernel
theorem dX9_earnest_134 : decode cX9_earnest 134 = .ok (.iadd, 1) := by decide +kernel
theorem dX9_earnest_135 : decode cX9_earnest 135 = .ok (.putfield 446, 3) := by decide +kernel
theorem dX9_earnest_138 : decode cX9_earnest 138 = .ok (.aload_n 0, 1) := by decide +kernel
theorem dX9_earnest_139 : decode cX9_earnest 139 = .ok (.iconst 0, 1) := by decide +kernel
theorem dX9_earnest_140 : decode cX9_earnest 140 = .ok (.iconst (-1), 1) := by decide +kernel
theorem dX9_earnest_141 : decode cX9_earnest 141 = .ok (.invokevirtual 427, 3) := by decide +kernel
theorem dX9_earnest_144 : decode cX9_earnest 144 = .ok (.ireturn, 1) := by decide +kernel
theorem dX9_earnest_107 : decode cX9_earnest 107 = .ok (.iconst 0, 1) := by decide +kernel
theorem dX9_earnest_108 : decode cX9_earnest 108 = .ok (.goto 7, 3) := by decide +kernel
theorem dX9_earnest_63 : decode cX9_earnest 63 = .ok (.aload_n 0, 1) := by decide +kernel
theorem dX9_earnest_64 : decode cX9_earnest 64 = .ok (.dup, 1) := by decide +kernel
theorem dX9_earnest_65 : decode cX9_earnest 65 = .ok (.getfield 379, 3) := by decide +kernel
theorem dX9_earnest_68 : decode cX9_earnest 68 = .ok (.aload_n 0, 1) := by decide +kernel
theorem dX9_earnest_69 : decode cX9_earnest 69 = .ok (.iconst 2, 1) := by decide +kernel
theorem dX9_earnest_70 : decode cX9_earnest 70 = .ok (.aload_n 0, 1) := by decide +kernel
theorem dX9_earnest_71 : decode cX9_earnest 71 = .ok (.getfield 39, 3) := by decide +kernel
theorem dX9_earnest_74 : decode cX9_earnest 74 = .ok (.aload_n 0, 1) := by decide +kernel
theorem dX9_earnest_75 : decode cX9_earnest 75 = .ok (.getfield 291, 3) := by decide +kernel
theorem dX9_earnest_78 : decode cX9_earnest 78 = .ok (.iaload, 1) := by decide +kernel
theorem dX9_earnest_79 : decode cX9_earnest 79 = .ok (.imul, 1) := by decide +kernel
theorem dX9_earnest_80 : decode cX9_earnest 80 = .ok (.iconst 1, 1) := by decide +kernel
theorem dX9_earnest_81 : decode cX9_earnest 81 = .ok (.iadd, 1) := by decide +kernel
theorem dX9_earnest_82 : decode cX9_earnest 82 = .ok (.invokevirtual 452, 3) := by decide +kernel
theorem dX9_earnest_85 : decode cX9_earnest 85 = .ok (.aload_n 0, 1) := by decide +kernel
theorem dX9_earnest_86 : decode cX9_earnest 86 = .ok (.getfield 39, 3) := by decide +kernel
theorem dX9_earnest_89 : decode cX9_earnest 89 = .ok (.aload_n 0, 1) := by decide +kernel
theorem dX9_earnest_90 : decode cX9_earnest 90 = .ok (.getfield 291, 3) := by decide +kernel
theorem dX9_earnest_93 : decode cX9_earnest 93 = .ok (.iaload, 1) := by decide +kernel
theorem dX9_earnest_94 : decode cX9_earnest 94 = .ok (.isub, 1) := by decide +kernel
theorem dX9_earnest_95 : decode cX9_earnest 95 = .ok (.iadd, 1) := by decide +kernel
theorem dX9_earnest_96 : decode cX9_earnest 96 = .ok (.putfield 379, 3) := by decide +kernel
theorem dX9_walk_0 : decode cX9_walk 0 = .ok (.aload_n 0, 1) := by decide +kernel
theorem dX9_walk_1 : decode cX9_walk 1 = .ok (.getfield 297, 3) := by decide +kernel
theorem dX9_walk_4 : decode cX9_walk 4 = .ok (.ifCond .eq 34, 3) := by decide +kernel
theorem dX9_walk_38 : decode cX9_walk 38 = .ok (.iconst (-1), 1) := by decide +kernel
theorem dX9_walk_39 : decode cX9_walk 39 = .ok (.ireturn, 1) := by decide +kernel
theorem dX9_walk_7 : decode cX9_walk 7 = .ok (.aload_n 0, 1) := by decide +kernel
theorem dX9_walk_8 : decode cX9_walk 8 = .ok (.iload_n 1, 1) := by decide +kernel
theorem dX9_walk_9 : decode cX9_walk 9 = .ok (.invokevirtual 455, 3) := by decide +kernel
theorem dX9_walk_12 : decode cX9_walk 12 = .ok (.ifCond .eq 26, 3) := by decide +kernel
theorem dX9_walk_15 : decode cX9_walk 15 = .ok (.iload_n 2, 1) := by decide +kernel
theorem dX9_walk_16 : decode cX9_walk 16 = .ok (.iconst 0, 1) := by decide +kernel
theorem dX9_walk_17 : decode cX9_walk 17 = .ok (.sipush 500, 3) := by decide +kernel
theorem dX9_walk_20 : decode cX9_walk 20 = .ok (.invokestatic 389, 3) := by decide +kernel
theorem dX9_walk_23 : decode cX9_walk 23 = .ok (.ifCond .eq 15, 3) := by decide +kernel
theorem dX9_walk_26 : decode cX9_walk 26 = .ok (.aload_n 0, 1) := by decide +kernel
theorem dX9_walk_27 : decode cX9_walk 27 = .ok (.getfield 446, 3) := by decide +kernel
theorem dX9_walk_30 : decode cX9_walk 30 = .ok (.iload_n 2, 1) := by decide +kernel
theorem dX9_walk_31 : decode cX9_walk 31 = .ok (.iadd, 1) := by decide +kernel
theorem dX9_walk_32 : decode cX9_walk 32 = .ok (.ldc_w 458, 3) := by decide +kernel
theorem dX9_walk_35 : decode cX9_walk 35 = .ok (.if_icmp .le 5, 3) := by decide +kernel
theorem dX9_walk_40 : decode cX9_walk 40 = .ok (.iconst 0, 1) := by decide +kernel
theorem dX9_walk_41 : decode cX9_walk 41 = .ok (.istore_n 3, 1) := by decide +kernel
theorem dX9_walk_42 : decode cX9_walk 42 = .ok (.iconst 0, 1) := by decide +kernel
theorem dX9_walk_43 : decode cX9_walk 43 = .ok (.istore 4, 2) := by decide +kernel
theorem dX9_walk_45 : decode cX9_walk 45 = .ok (.iload 4, 2) := by decide +kernel
theorem dX9_walk_47 : decode cX9_walk 47 = .ok (.iload_n 2, 1) := by decide +kernel
theorem dX9_walk_48 : decode cX9_walk 48 = .ok (.if_icmp .ge 42, 3) := by decide +kernel
theorem dX9_walk_90 : decode cX9_walk 90 = .ok (.aload_n 0, 1) := by decide +kernel
theorem dX9_walk_91 : decode cX9_walk 91 = .ok (.dup, 1) := by decide +kernel
theorem dX9_walk_92 : decode cX9_walk 92 = .ok (.getfield 449, 3) := by decide +kernel
theorem dX9_walk_95 : decode cX9_walk 95 = .ok (.iload_n 3, 1) := by decide +kernel
theorem dX9_walk_96 : decode cX9_walk 96 = .ok (.iadd, 1) := by decide +kernel
theorem dX9_walk_97 : decode cX9_walk 97 = .ok (.putfield 449, 3) := by decide +kernel
theorem dX9_walk_100 : decode cX9_walk 100 = .ok (.iload_n 3, 1) := by decide +kernel
theorem dX9_walk_101 : decode cX9_walk 101 = .ok (.ireturn, 1) := by decide +kernel
theorem dX9_walk_51 : decode cX9_walk 51 = .ok (.aload_n 0, 1) := by decide +kernel
theorem dX9_walk_52 : decode cX9_walk 52 = .ok (.getfield 396, 3) := by decide +kernel
theorem dX9_walk_55 : decode cX9_walk 55 = .ok (.ifCond .le 35, 3) := by decide +kernel
theorem dX9_walk_58 : decode cX9_walk 58 = .ok (.aload_n 0, 1) := by decide +kernel
theorem dX9_walk_59 : decode cX9_walk 59 = .ok (.getfield 440, 3) := by decide +kernel
theorem dX9_walk_62 : decode cX9_walk 62 = .ok (.iload_n 1, 1) := by decide +kernel
theorem dX9_walk_63 : decode cX9_walk 63 = .ok (.if_icmp .eq 8, 3) := by decide +kernel
theorem dX9_walk_71 : decode cX9_walk 71 = .ok (.aload_n 0, 1) := by decide +kernel
theorem dX9_walk_72 : decode cX9_walk 72 = .ok (.iload_n 1, 1) := by decide +kernel
theorem dX9_walk_73 : decode cX9_walk 73 = .ok (.putfield 440, 3) := by decide +kernel
theorem dX9_walk_76 : decode cX9_walk 76 = .ok (.iload_n 3, 1) := by decide +kernel
theorem dX9_walk_77 : decode cX9_walk 77 = .ok (.aload_n 0, 1) := by decide +kernel
theorem dX9_walk_78 : decode cX9_walk 78 = .ok (.iload_n 1, 1) := by decide +kernel
theorem dX9_walk_79 : decode cX9_walk 79 = .ok (.invokevirtual 459, 3) := by decide +kernel
theorem dX9_walk_82 : decode cX9_walk 82 = .ok (.iadd, 1) := by decide +kernel
theorem dX9_walk_83 : decode cX9_walk 83 = .ok (.istore_n 3, 1) := by decide +kernel
theorem dX9_walk_84 : decode cX9_walk 84 = .ok (.iinc 4 1, 3) := by decide +kernel
theorem dX9_walk_87 : decode cX9_walk 87 = .ok (.goto (-42), 3) := by decide +kernel
theorem dX9_walk_66 : decode cX9_walk 66 = .ok (.aload_n 0, 1) := by decide +kernel
theorem dX9_walk_67 : decode cX9_walk 67 = .ok (.iconst 0, 1) := by decide +kernel
theorem dX9_walk_68 : decode cX9_walk 68 = .ok (.putfield 443, 3) := by decide +kernel
theorem dX9_pull_0 : decode cX9_pull 0 = .ok (.aload_n 0, 1) := by decide +kernel
theorem dX9_pull_1 : decode cX9_pull 1 = .ok (.getfield 297, 3) := by decide +kernel
theorem dX9_pull_4 : decode cX9_pull 4 = .ok (.ifCond .eq 21, 3) := by decide +kernel
theorem dX9_pull_25 : decode cX9_pull 25 = .ok (.iconst (-1), 1) := by decide +kernel
theorem dX9_pull_26 : decode cX9_pull 26 = .ok (.ireturn, 1) := by decide +kernel
theorem dX9_pull_7 : decode cX9_pull 7 = .ok (.aload_n 0, 1) := by decide +kernel
theorem dX9_pull_8 : decode cX9_pull 8 = .ok (.getfield 396, 3) := by decide +kernel
theorem dX9_pull_11 : decode cX9_pull 11 = .ok (.ifCond .eq 14, 3) := by decide +kernel
theorem dX9_pull_14 : decode cX9_pull 14 = .ok (.iload_n 1, 1) := by decide +kernel
theorem dX9_pull_15 : decode cX9_pull 15 = .ok (.iconst 0, 1) := by decide +kernel
theorem dX9_pull_16 : decode cX9_pull 16 = .ok (.sipush 999, 3) := by decide +kernel
theorem dX9_pull_19 : decode cX9_pull 19 = .ok (.invokestatic 389, 3) := by decide +kernel
theorem dX9_pull_22 : decode cX9_pull 22 = .ok (.ifCond .ne 5, 3) := by decide +kernel
theorem dX9_pull_27 : decode cX9_pull 27 = .ok (.aload_n 0, 1) := by decide +kernel
theorem dX9_pull_28 : decode cX9_pull 28 = .ok (.iconst 0, 1) := by decide +kernel
theorem dX9_pull_29 : decode cX9_pull 29 = .ok (.putfield 376, 3) := by decide +kernel
theorem dX9_pull_32 : decode cX9_pull 32 = .ok (.aload_n 0, 1) := by decide +kernel
theorem dX9_pull_33 : decode cX9_pull 33 = .ok (.iconst 0, 1) := by decide +kernel
theorem dX9_pull_34 : decode cX9_pull 34 = .ok (.putfield 379, 3) := by decide +kernel
theorem dX9_pull_37 : decode cX9_pull 37 = .ok (.aload_n 0, 1) := by decide +kernel
theorem dX9_pull_38 : decode cX9_pull 38 = .ok (.iconst 0, 1) := by decide +kernel
theorem dX9_pull_39 : decode cX9_pull 39 = .ok (.iload_n 1, 1) := by decide +kernel
theorem dX9_pull_40 : decode cX9_pull 40 = .ok (.invokevirtual 427, 3) := by decide +kernel
theorem dX9_pull_43 : decode cX9_pull 43 = .ok (.istore_n 2, 1) := by decide +kernel
theorem dX9_pull_44 : decode cX9_pull 44 = .ok (.aload_n 0, 1) := by decide +kernel
theorem dX9_pull_45 : decode cX9_pull 45 = .ok (.dup, 1) := by decide +kernel
theorem dX9_pull_46 : decode cX9_pull 46 = .ok (.getfield 449, 3) := by decide +kernel
theorem dX9_pull_49 : decode cX9_pull 49 = .ok (.iload_n 2, 1) := by decide +kernel
theorem dX9_pull_50 : decode cX9_pull 50 = .ok (.iadd, 1) := by decide +kernel
theorem dX9_pull_51 : decode cX9_pull 51 = .ok (.putfield 449, 3) := by decide +kernel
theorem dX9_pull_54 : decode cX9_pull 54 = .ok (.iload_n 2, 1) := by decide +kernel
theorem dX9_pull_55 : decode cX9_pull 55 = .ok (.ireturn, 1) := by decide +kernel
theorem dX9_bow_0 : decode cX9_bow 0 = .ok (.aload_n 0, 1) := by decide +kernel
theorem dX9_bow_1 : decode cX9_bow 1 = .ok (.getfield 297, 3) := by decide +kernel
theorem dX9_bow_4 : decode cX9_bow 4 = .ok (.ifCond .ne 5, 3) := by decide +kernel
theorem dX9_bow_9 : decode cX9_bow 9 = .ok (.iload_n 1, 1) := by decide +kernel
theorem dX9_bow_10 : decode cX9_bow 10 = .ok (.tableswitch 63 0 4 #[34, 39, 46, 53, 58], 34) := by decide +kernel
theorem dX9_bow_44 : decode cX9_bow 44 = .ok (.aload_n 0, 1) := by decide +kernel
theorem dX9_bow_45 : decode cX9_bow 45 = .ok (.getfield 396, 3) := by decide +kernel
theorem dX9_bow_48 : decode cX9_bow 48 = .ok (.ireturn, 1) := by decide +kernel
theorem dX9_bow_49 : decode cX9_bow 49 = .ok (.aload_n 0, 1) := by decide +kernel
theorem dX9_bow_50 : decode cX9_bow 50 = .ok (.getfield 122, 3) := by decide +kernel
theorem dX9_bow_53 : decode cX9_bow 53 = .ok (.iconst 0, 1) := by decide +kernel
theorem dX9_bow_54 : decode cX9_bow 54 = .ok (.iaload, 1) := by decide +kernel
theorem dX9_bow_55 : decode cX9_bow 55 = .ok (.ireturn, 1) := by decide +kernel
theorem dX9_bow_56 : decode cX9_bow 56 = .ok (.aload_n 0, 1) := by decide +kernel
theorem dX9_bow_57 : decode cX9_bow 57 = .ok (.getfield 122, 3) := by decide +kernel
theorem dX9_bow_60 : decode cX9_bow 60 = .ok (.iconst 1, 1) := by decide +kernel
theorem dX9_bow_61 : decode cX9_bow 61 = .ok (.iaload, 1) := by decide +kernel
theorem dX9_bow_62 : decode cX9_bow 62 = .ok (.ireturn, 1) := by decide +kernel
theorem dX9_bow_63 : decode cX9_bow 63 = .ok (.aload_n 0, 1) := by decide +kernel
theorem dX9_bow_64 : decode cX9_bow 64 = .ok (.getfield 446, 3) := by decide +kernel
theorem dX9_bow_67 : decode cX9_bow 67 = .ok (.ireturn, 1) := by decide +kernel
theorem dX9_bow_68 : decode cX9_bow 68 = .ok (.aload_n 0, 1) := by decide +kernel
theorem dX9_bow_69 : decode cX9_bow 69 = .ok (.getfield 449, 3) := by decide +kernel
theorem dX9_bow_72 : decode cX9_bow 72 = .ok (.ireturn, 1) := by decide +kernel
theorem dX9_bow_73 : decode cX9_bow 73 = .ok (.iload_n 1, 1) := by decide +kernel
theorem dX9_bow_74 : decode cX9_bow 74 = .ok (.bipush 10, 2) := by decide +kernel
theorem dX9_bow_76 : decode cX9_bow 76 = .ok (.bipush 9, 2) := by decide +kernel
theorem dX9_bow_78 : decode cX9_bow 78 = .ok (.aload_n 0, 1) := by decide +kernel
theorem dX9_bow_79 : decode cX9_bow 79 = .ok (.getfield 399, 3) := by decide +kernel
theorem dX9_bow_82 : decode cX9_bow 82 = .ok (.iadd, 1) := by decide +kernel
theorem dX9_bow_83 : decode cX9_bow 83 = .ok (.invokestatic 389, 3) := by decide +kernel
theorem dX9_bow_86 : decode cX9_bow 86 = .ok (.ifCond .eq 15, 3) := by decide +kernel
theorem dX9_bow_89 : decode cX9_bow 89 = .ok (.aload_n 0, 1) := by decide +kernel
theorem dX9_bow_90 : decode cX9_bow 90 = .ok (.getfield 119, 3) := by decide +kernel
theorem dX9_bow_93 : decode cX9_bow 93 = .ok (.iload_n 1, 1) := by decide +kernel
theorem dX9_bow_94 : decode cX9_bow 94 = .ok (.bipush 10, 2) := by decide +kernel
theorem dX9_bow_96 : decode cX9_bow 96 = .ok (.isub, 1) := by decide +kernel
theorem dX9_bow_97 : decode cX9_bow 97 = .ok (.iaload, 1) := by decide +kernel
theorem dX9_bow_98 : decode cX9_bow 98 = .ok (.goto 4, 3) := by decide +kernel
theorem dX9_bow_102 : decode cX9_bow 102 = .ok (.ireturn, 1) := by decide +kernel
theorem dX9_bow_101 : decode cX9_bow 101 = .ok (.iconst (-1), 1) := by decide +kernel
theorem dX9_bow_7 : decode cX9_bow 7 = .ok (.iconst (-1), 1) := by decide +kernel
theorem dX9_bow_8 : decode cX9_bow 8 = .ok (.ireturn, 1) := by decide +kernel
theorem dX9_knot_0 : decode cX9_knot 0 = .ok (.aload_n 0, 1) := by decide +kernel
theorem dX9_knot_1 : decode cX9_knot 1 = .ok (.iload_n 1, 1) := by decide +kernel
theorem dX9_knot_2 : decode cX9_knot 2 = .ok (.invokevirtual 431, 3) := by decide +kernel
theorem dX9_knot_5 : decode cX9_knot 5 = .ok (.ifCond .ne 5, 3) := by decide +kernel
theorem dX9_knot_10 : decode cX9_knot 10 = .ok (.aload_n 0, 1) := by decide +kernel
theorem dX9_knot_11 : decode cX9_knot 11 = .ok (.getfield 68, 3) := by decide +kernel
theorem dX9_knot_14 : decode cX9_knot 14 = .ok (.bipush 6, 2) := by decide +kernel
theorem dX9_knot_16 : decode cX9_knot 16 = .ok (.aload_n 0, 1) := by decide +kernel
theorem dX9_knot_17 : decode cX9_knot 17 = .ok (.getfield 291, 3) := by decide +kernel
theorem dX9_knot_20 : decode cX9_knot 20 = .ok (.imul, 1) := by decide +kernel
theorem dX9_knot_21 : decode cX9_knot 21 = .ok (.iload_n 1, 1) := by decide +kernel
theorem dX9_knot_22 : decode cX9_knot 22 = .ok (.iadd, 1) := by decide +kernel
theorem dX9_knot_23 : decode cX9_knot 23 = .ok (.iaload, 1) := by decide +kernel
theorem dX9_knot_24 : decode cX9_knot 24 = .ok (.istore_n 3, 1) := by decide +kernel
theorem dX9_knot_25 : decode cX9_knot 25 = .ok (.aload_n 0, 1) := by decide +kernel
theorem dX9_knot_26 : decode cX9_knot 26 = .ok (.getfield 71, 3) := by decide +kernel
theorem dX9_knot_29 : decode cX9_knot 29 = .ok (.bipush 6, 2) := by decide +kernel
theorem dX9_knot_31 : decode cX9_knot 31 = .ok (.aload_n 0, 1) := by decide +kernel
theorem dX9_knot_32 : decode cX9_knot 32 = .ok (.getfield 291, 3) := by decide +kernel
theorem dX9_knot_35 : decode cX9_knot 35 = .ok (.imul, 1) := by decide +kernel
theorem dX9_knot_36 : decode cX9_knot 36 = .ok (.iload_n 1, 1) := by decide +kernel
theorem dX9_knot_37 : decode cX9_knot 37 = .ok (.iadd, 1) := by decide +kernel
theorem dX9_knot_38 : decode cX9_knot 38 = .ok (.iaload, 1) := by decide +kernel
theorem dX9_knot_39 : decode cX9_knot 39 = .ok (.istore 4, 2) := by decide +kernel
theorem dX9_knot_41 : decode cX9_knot 41 = .ok (.iconst 0, 1) := by decide +kernel
theorem dX9_knot_42 : decode cX9_knot 42 = .ok (.istore 5, 2) := by decide +kernel
theorem dX9_knot_44 : decode cX9_knot 44 = .ok (.iconst 1, 1) := by decide +kernel
theorem dX9_knot_45 : decode cX9_knot 45 = .ok (.istore 6, 2) := by decide +kernel
theorem dX9_knot_47 : decode cX9_knot 47 = .ok (.iload 6, 2) := by decide +kernel
theorem dX9_knot_49 : decode cX9_knot 49 = .ok (.iload 4, 2) := by decide +kernel
theorem dX9_knot_51 : decode cX9_knot 51 = .ok (.if_icmp .ge 36, 3) := by decide +kernel
theorem dX9_knot_87 : decode cX9_knot 87 = .ok (.iload_n 2, 1) := by decide +kernel
theorem dX9_knot_88 : decode cX9_knot 88 = .ok (.ifCond .ne 8, 3) := by decide +kernel
theorem dX9_knot_96 : decode cX9_knot 96 = .ok (.iload_n 2, 1) := by decide +kernel
theorem dX9_knot_97 : decode cX9_knot 97 = .ok (.iconst 1, 1) := by decide +kernel
theorem dX9_knot_98 : decode cX9_knot 98 = .ok (.if_icmp .ne 7, 3) := by decide +kernel
theorem dX9_knot_105 : decode cX9_knot 105 = .ok (.iload_n 2, 1) := by decide +kernel
theorem dX9_knot_106 : decode cX9_knot 106 = .ok (.iconst 2, 1) := by decide +kernel
theorem dX9_knot_107 : decode cX9_knot 107 = .ok (.if_icmp .ne 8, 3) := by decide +kernel
theorem dX9_knot_115 : decode cX9_knot 115 = .ok (.iconst (-1), 1) := by decide +kernel
theorem dX9_knot_116 : decode cX9_knot 116 = .ok (.ireturn, 1) := by decide +kernel
theorem dX9_knot_110 : decode cX9_knot 110 = .ok (.iload 5, 2) := by decide +kernel
theorem dX9_knot_112 : decode cX9_knot 112 = .ok (.goto 4, 3) := by decide +kernel
theorem dX9_knot_101 : decode cX9_knot 101 = .ok (.iload_n 3, 1) := by decide +kernel
theorem dX9_knot_102 : decode cX9_knot 102 = .ok (.goto 14, 3) := by decide +kernel
theorem dX9_knot_91 : decode cX9_knot 91 = .ok (.iload 4, 2) := by decide +kernel
theorem dX9_knot_93 : decode cX9_knot 93 = .ok (.goto 23, 3) := by decide +kernel
theorem dX9_knot_54 : decode cX9_knot 54 = .ok (.iload 5, 2) := by decide +kernel
theorem dX9_knot_56 : decode cX9_knot 56 = .ok (.iload_n 3, 1) := by decide +kernel
theorem dX9_knot_57 : decode cX9_knot 57 = .ok (.iload 6, 2) := by decide +kernel
theorem dX9_knot_59 : decode cX9_knot 59 = .ok (.ishr, 1) := by decide +kernel
theorem dX9_knot_60 : decode cX9_knot 60 = .ok (.iconst 1, 1) := by decide +kernel
theorem dX9_knot_61 : decode cX9_knot 61 = .ok (.iand, 1) := by decide +kernel
theorem dX9_knot_62 : decode cX9_knot 62 = .ok (.iload_n 3, 1) := by decide +kernel
theorem dX9_knot_63 : decode cX9_knot 63 = .ok (.iload 6, 2) := by decide +kernel
theorem dX9_knot_65 : decode cX9_knot 65 = .ok (.iconst 1, 1) := by decide +kernel
theorem dX9_knot_66 : decode cX9_knot 66 = .ok (.isub, 1) := by decide +kernel
theorem dX9_knot_67 : decode cX9_knot 67 = .ok (.ishr, 1) := by decide +kernel
theorem dX9_knot_68 : decode cX9_knot 68 = .ok (.iconst 1, 1) := by decide +kernel
theorem dX9_knot_69 : decode cX9_knot 69 = .ok (.iand, 1) := by decide +kernel
theorem dX9_knot_70 : decode cX9_knot 70 = .ok (.if_icmp .ne 7, 3) := by decide +kernel
theorem dX9_knot_77 : decode cX9_knot 77 = .ok (.iconst 0, 1) := by decide +kernel
theorem dX9_knot_78 : decode cX9_knot 78 = .ok (.iadd, 1) := by decide +kernel
theorem dX9_knot_79 : decode cX9_knot 79 = .ok (.istore 5, 2) := by decide +kernel
theorem dX9_knot_81 : decode cX9_knot 81 = .ok (.iinc 6 1, 3) := by decide +kernel
theorem dX9_knot_84 : decode cX9_knot 84 = .ok (.goto (-37), 3) := by decide +kernel
theorem dX9_knot_73 : decode cX9_knot 73 = .ok (.iconst 1, 1) := by decide +kernel
theorem dX9_knot_74 : decode cX9_knot 74 = .ok (.goto 4, 3) := by decide +kernel
theorem dX9_knot_8 : decode cX9_knot 8 = .ok (.iconst (-1), 1) := by decide +kernel
theorem dX9_knot_9 : decode cX9_knot 9 = .ok (.ireturn, 1) := by decide +kernel
theorem dX9_wouldSlip_0 : decode cX9_wouldSlip 0 = .ok (.bipush 8, 2) := by decide +kernel
theorem dX9_wouldSlip_2 : decode cX9_wouldSlip 2 = .ok (.iconst 4, 1) := by decide +kernel
theorem dX9_wouldSlip_3 : decode cX9_wouldSlip 3 = .ok (.aload_n 0, 1) := by decide +kernel
theorem dX9_wouldSlip_4 : decode cX9_wouldSlip 4 = .ok (.getfield 291, 3) := by decide +kernel
theorem dX9_wouldSlip_7 : decode cX9_wouldSlip 7 = .ok (.imul, 1) := by decide +kernel
theorem dX9_wouldSlip_8 : decode cX9_wouldSlip 8 = .ok (.iload_n 1, 1) := by decide +kernel
theorem dX9_wouldSlip_9 : decode cX9_wouldSlip 9 = .ok (.iadd, 1) := by decide +kernel
theorem dX9_wouldSlip_10 : decode cX9_wouldSlip 10 = .ok (.imul, 1) := by decide +kernel
theorem dX9_wouldSlip_11 : decode cX9_wouldSlip 11 = .ok (.iload_n 2, 1) := by decide +kernel
theorem dX9_wouldSlip_12 : decode cX9_wouldSlip 12 = .ok (.aload_n 0, 1) := by decide +kernel
theorem dX9_wouldSlip_13 : decode cX9_wouldSlip 13 = .ok (.getfield 83, 3) := by decide +kernel
theorem dX9_wouldSlip_16 : decode cX9_wouldSlip 16 = .ok (.iconst 4, 1) := by decide +kernel
theorem dX9_wouldSlip_17 : decode cX9_wouldSlip 17 = .ok (.aload_n 0, 1) := by decide +kernel
theorem dX9_wouldSlip_18 : decode cX9_wouldSlip 18 = .ok (.getfield 291, 3) := by decide +kernel
theorem dX9_wouldSlip_21 : decode cX9_wouldSlip 21 = .ok (.imul, 1) := by decide +kernel
theorem dX9_wouldSlip_22 : decode cX9_wouldSlip 22 = .ok (.iload_n 1, 1) := by decide +kernel
theorem dX9_wouldSlip_23 : decode cX9_wouldSlip 23 = .ok (.iadd, 1) := by decide +kernel
theorem dX9_wouldSlip_24 : decode cX9_wouldSlip 24 = .ok (.iaload, 1) := by decide +kernel
theorem dX9_wouldSlip_25 : decode cX9_wouldSlip 25 = .ok (.irem, 1) := by decide +kernel
theorem dX9_wouldSlip_26 : decode cX9_wouldSlip 26 = .ok (.iadd, 1) := by decide +kernel
theorem dX9_wouldSlip_27 : decode cX9_wouldSlip 27 = .ok (.istore 4, 2) := by decide +kernel
theorem dX9_wouldSlip_29 : decode cX9_wouldSlip 29 = .ok (.aload_n 0, 1) := by decide +kernel
theorem dX9_wouldSlip_30 : decode cX9_wouldSlip 30 = .ok (.aload_n 0, 1) := by decide +kernel
theorem dX9_wouldSlip_31 : decode cX9_wouldSlip 31 = .ok (.getfield 86, 3) := by decide +kernel
theorem dX9_wouldSlip_34 : decode cX9_wouldSlip 34 = .ok (.iload 4, 2) := by decide +kernel
theorem dX9_wouldSlip_36 : decode cX9_wouldSlip 36 = .ok (.iaload, 1) := by decide +kernel
theorem dX9_wouldSlip_37 : decode cX9_wouldSlip 37 = .ok (.aload_n 0, 1) := by decide +kernel
theorem dX9_wouldSlip_38 : decode cX9_wouldSlip 38 = .ok (.getfield 421, 3) := by decide +kernel
theorem dX9_wouldSlip_41 : decode cX9_wouldSlip 41 = .ok (.if_icmp .le 18, 3) := by decide +kernel
theorem dX9_wouldSlip_59 : decode cX9_wouldSlip 59 = .ok (.iconst 0, 1) := by decide +kernel
theorem dX9_wouldSlip_60 : decode cX9_wouldSlip 60 = .ok (.putfield 376, 3) := by decide +kernel
theorem dX9_wouldSlip_63 : decode cX9_wouldSlip 63 = .ok (.aload_n 0, 1) := by decide +kernel
theorem dX9_wouldSlip_64 : decode cX9_wouldSlip 64 = .ok (.aload_n 0, 1) := by decide +kernel
theorem dX9_wouldSlip_65 : decode cX9_wouldSlip 65 = .ok (.getfield 89, 3) := by decide +kernel
theorem dX9_wouldSlip_68 : decode cX9_wouldSlip 68 = .ok (.iload 4, 2) := by decide +kernel
theorem dX9_wouldSlip_70 : decode cX9_wouldSlip 70 = .ok (.iaload, 1) := by decide +kernel
theorem dX9_wouldSlip_71 : decode cX9_wouldSlip 71 = .ok (.aload_n 0, 1) := by decide +kernel
theorem dX9_wouldSlip_72 : decode cX9_wouldSlip 72 = .ok (.getfield 424, 3) := by decide +kernel
theorem dX9_wouldSlip_75 : decode cX9_wouldSlip 75 = .ok (.if_icmp .le 18, 3) := by decide +kernel
theorem dX9_wouldSlip_93 : decode cX9_wouldSlip 93 = .ok (.iconst 0, 1) := by decide +kernel
theorem dX9_wouldSlip_94 : decode cX9_wouldSlip 94 = .ok (.putfield 379, 3) := by decide +kernel
theorem dX9_wouldSlip_97 : decode cX9_wouldSlip 97 = .ok (.aload_n 0, 1) := by decide +kernel
theorem dX9_wouldSlip_98 : decode cX9_wouldSlip 98 = .ok (.getfield 396, 3) := by decide +kernel
theorem dX9_wouldSlip_101 : decode cX9_wouldSlip 101 = .ok (.iconst 1, 1) := by decide +kernel
theorem dX9_wouldSlip_102 : decode cX9_wouldSlip 102 = .ok (.isub, 1) := by decide +kernel
theorem dX9_wouldSlip_103 : decode cX9_wouldSlip 103 = .ok (.istore 5, 2) := by decide +kernel
theorem dX9_wouldSlip_105 : decode cX9_wouldSlip 105 = .ok (.aload_n 0, 1) := by decide +kernel
theorem dX9_wouldSlip_106 : decode cX9_wouldSlip 106 = .ok (.iload_n 3, 1) := by decide +kernel
theorem dX9_wouldSlip_107 : decode cX9_wouldSlip 107 = .ok (.iload 5, 2) := by decide +kernel
theorem dX9_wouldSlip_109 : decode cX9_wouldSlip 109 = .ok (.invokevirtual 411, 3) := by decide +kernel
theorem dX9_wouldSlip_112 : decode cX9_wouldSlip 112 = .ok (.i2l, 1) := by decide +kernel
theorem dX9_wouldSlip_113 : decode cX9_wouldSlip 113 = .ok (.aload_n 0, 1) := by decide +kernel
theorem dX9_wouldSlip_114 : decode cX9_wouldSlip 114 = .ok (.iload_n 3, 1) := by decide +kernel
theorem dX9_wouldSlip_115 : decode cX9_wouldSlip 115 = .ok (.iload 5, 2) := by decide +kernel
theorem dX9_wouldSlip_117 : decode cX9_wouldSlip 117 = .ok (.invokevirtual 414, 3) := by decide +kernel
theorem dX9_wouldSlip_120 : decode cX9_wouldSlip 120 = .ok (.i2l, 1) := by decide +kernel
theorem dX9_wouldSlip_121 : decode cX9_wouldSlip 121 = .ok (.lcmp, 1) := by decide +kernel
theorem dX9_wouldSlip_122 : decode cX9_wouldSlip 122 = .ok (.ifCond .le 7, 3) := by decide +kernel
theorem dX9_wouldSlip_129 : decode cX9_wouldSlip 129 = .ok (.iconst 0, 1) := by decide +kernel
theorem dX9_wouldSlip_130 : decode cX9_wouldSlip 130 = .ok (.ireturn, 1) := by decide +kernel
theorem dX9_wouldSlip_125 : decode cX9_wouldSlip 125 = .ok (.iconst 1, 1) := by decide +kernel
theorem dX9_wouldSlip_126 : decode cX9_wouldSlip 126 = .ok (.goto 4, 3) := by decide +kernel
theorem dX9_wouldSlip_78 : decode cX9_wouldSlip 78 = .ok (.aload_n 0, 1) := by decide +kernel
theorem dX9_wouldSlip_79 : decode cX9_wouldSlip 79 = .ok (.getfield 89, 3) := by decide +kernel
theorem dX9_wouldSlip_82 : decode cX9_wouldSlip 82 = .ok (.iload 4, 2) := by decide +kernel
theorem dX9_wouldSlip_84 : decode cX9_wouldSlip 84 = .ok (.iaload, 1) := by decide +kernel
theorem dX9_wouldSlip_85 : decode cX9_wouldSlip 85 = .ok (.aload_n 0, 1) := by decide +kernel
theorem dX9_wouldSlip_86 : decode cX9_wouldSlip 86 = .ok (.getfield 424, 3) := by decide +kernel
theorem dX9_wouldSlip_89 : decode cX9_wouldSlip 89 = .ok (.isub, 1) := by decide +kernel
theorem dX9_wouldSlip_90 : decode cX9_wouldSlip 90 = .ok (.goto 4, 3) := by decide +kernel
theorem dX9_wouldSlip_44 : decode cX9_wouldSlip 44 = .ok (.aload_n 0, 1) := by decide +kernel
theorem dX9_wouldSlip_45 : decode cX9_wouldSlip 45 = .ok (.getfield 86, 3) := by decide +kernel
theorem dX9_wouldSlip_48 : decode cX9_wouldSlip 48 = .ok (.iload 4, 2) := by decide +kernel
theorem dX9_wouldSlip_50 : decode cX9_wouldSlip 50 = .ok (.iaload, 1) := by decide +kernel
theorem dX9_wouldSlip_51 : decode cX9_wouldSlip 51 = .ok (.aload_n 0, 1) := by decide +kernel
theorem dX9_wouldSlip_52 : decode cX9_wouldSlip 52 = .ok (.getfield 421, 3) := by decide +kernel
theorem dX9_wouldSlip_55 : decode cX9_wouldSlip 55 = .ok (.isub, 1) := by decide +kernel
theorem dX9_wouldSlip_56 : decode cX9_wouldSlip 56 = .ok (.goto 4, 3) := by decide +kernel
theorem dX9_isStill_0 : decode cX9_isStill 0 = .ok (.iconst 0, 1) := by decide +kernel
theorem dX9_isStill_1 : decode cX9_isStill 1 = .ok (.istore 4, 2) := by decide +kernel
theorem dX9_isStill_3 : decode cX9_isStill 3 = .ok (.iconst 0, 1) := by decide +kernel
theorem dX9_isStill_4 : decode cX9_isStill 4 = .ok (.istore 5, 2) := by decide +kernel
theorem dX9_isStill_6 : decode cX9_isStill 6 = .ok (.iload 5, 2) := by decide +kernel
theorem dX9_isStill_8 : decode cX9_isStill 8 = .ok (.aload_n 0, 1) := by decide +kernel
theorem dX9_isStill_9 : decode cX9_isStill 9 = .ok (.getfield 83, 3) := by decide +kernel
theorem dX9_isStill_12 : decode cX9_isStill 12 = .ok (.iconst 4, 1) := by decide +kernel
theorem dX9_isStill_13 : decode cX9_isStill 13 = .ok (.aload_n 0, 1) := by decide +kernel
theorem dX9_isStill_14 : decode cX9_isStill 14 = .ok (.getfield 291, 3) := by decide +kernel
theorem dX9_isStill_17 : decode cX9_isStill 17 = .ok (.imul, 1) := by decide +kernel
theorem dX9_isStill_18 : decode cX9_isStill 18 = .ok (.iload_n 1, 1) := by decide +kernel
theorem dX9_isStill_19 : decode cX9_isStill 19 = .ok (.iadd, 1) := by decide +kernel
theorem dX9_isStill_20 : decode cX9_isStill 20 = .ok (.iaload, 1) := by decide +kernel
theorem dX9_isStill_21 : decode cX9_isStill 21 = .ok (.if_icmp .ge 34, 3) := by decide +kernel
theorem dX9_isStill_55 : decode cX9_isStill 55 = .ok (.iload 4, 2) := by decide +kernel
theorem dX9_isStill_57 : decode cX9_isStill 57 = .ok (.ifCond .ne 7, 3) := by decide +kernel
theorem dX9_isStill_64 : decode cX9_isStill 64 = .ok (.iconst 0, 1) := by decide +kernel
theorem dX9_isStill_65 : decode cX9_isStill 65 = .ok (.ireturn, 1) := by decide +kernel
theorem dX9_isStill_60 : decode cX9_isStill 60 = .ok (.iconst 1, 1) := by decide +kernel
theorem dX9_isStill_61 : decode cX9_isStill 61 = .ok (.goto 4, 3) := by decide +kernel
theorem dX9_isStill_24 : decode cX9_isStill 24 = .ok (.iload 4, 2) := by decide +kernel
theorem dX9_isStill_26 : decode cX9_isStill 26 = .ok (.ifCond .ne 29, 3) := by decide +kernel
theorem dX9_isStill_29 : decode cX9_isStill 29 = .ok (.aload_n 0, 1) := by decide +kernel
theorem dX9_isStill_30 : decode cX9_isStill 30 = .ok (.iload_n 1, 1) := by decide +kernel
theorem dX9_isStill_31 : decode cX9_isStill 31 = .ok (.iload_n 3, 1) := by decide +kernel
theorem dX9_isStill_32 : decode cX9_isStill 32 = .ok (.iload 5, 2) := by decide +kernel
theorem dX9_isStill_34 : decode cX9_isStill 34 = .ok (.iadd, 1) := by decide +kernel
theorem dX9_isStill_35 : decode cX9_isStill 35 = .ok (.iload_n 2, 1) := by decide +kernel
theorem dX9_isStill_36 : decode cX9_isStill 36 = .ok (.invokevirtual 468, 3) := by decide +kernel
theorem dX9_isStill_39 : decode cX9_isStill 39 = .ok (.ifCond .eq 7, 3) := by decide +kernel
theorem dX9_isStill_42 : decode cX9_isStill 42 = .ok (.iconst 1, 1) := by decide +kernel
theorem dX9_isStill_43 : decode cX9_isStill 43 = .ok (.goto 4, 3) := by decide +kernel
theorem dX9_isStill_47 : decode cX9_isStill 47 = .ok (.istore 4, 2) := by decide +kernel
theorem dX9_isStill_49 : decode cX9_isStill 49 = .ok (.iinc 5 1, 3) := by decide +kernel
theorem dX9_isStill_52 : decode cX9_isStill 52 = .ok (.goto (-46), 3) := by decide +kernel
theorem dX9_isStill_46 : decode cX9_isStill 46 = .ok (.iconst 0, 1) := by decide +kernel
theorem dX9_holdsNow_0 : decode cX9_holdsNow 0 = .ok (.iconst 0, 1) := by decide +kernel
theorem dX9_holdsNow_1 : decode cX9_holdsNow 1 = .ok (.istore_n 3, 1) := by decide +kernel
theorem dX9_holdsNow_2 : decode cX9_holdsNow 2 = .ok (.aload_n 0, 1) := by decide +kernel
theorem dX9_holdsNow_3 : decode cX9_holdsNow 3 = .ok (.getfield 396, 3) := by decide +kernel
theorem dX9_holdsNow_6 : decode cX9_holdsNow 6 = .ok (.ifCond .le 51, 3) := by decide +kernel
theorem dX9_holdsNow_57 : decode cX9_holdsNow 57 = .ok (.iload_n 3, 1) := by decide +kernel
theorem dX9_holdsNow_58 : decode cX9_holdsNow 58 = .ok (.ireturn, 1) := by decide +kernel
theorem dX9_holdsNow_9 : decode cX9_holdsNow 9 = .ok (.iload_n 3, 1) := by decide +kernel
theorem dX9_holdsNow_10 : decode cX9_holdsNow 10 = .ok (.sipush 2000, 3) := by decide +kernel
theorem dX9_holdsNow_13 : decode cX9_holdsNow 13 = .ok (.if_icmp .ge 44, 3) := by decide +kernel
theorem dX9_holdsNow_16 : decode cX9_holdsNow 16 = .ok (.aload_n 0, 1) := by decide +kernel
theorem dX9_holdsNow_17 : decode cX9_holdsNow 17 = .ok (.iload_n 1, 1) := by decide +kernel
theorem dX9_holdsNow_18 : decode cX9_holdsNow 18 = .ok (.iload_n 3, 1) := by decide +kernel
theorem dX9_holdsNow_19 : decode cX9_holdsNow 19 = .ok (.iload_n 2, 1) := by decide +kernel
theorem dX9_holdsNow_20 : decode cX9_holdsNow 20 = .ok (.invokevirtual 462, 3) := by decide +kernel
theorem dX9_holdsNow_23 : decode cX9_holdsNow 23 = .ok (.istore 4, 2) := by decide +kernel
theorem dX9_holdsNow_25 : decode cX9_holdsNow 25 = .ok (.iinc 3 1, 3) := by decide +kernel
theorem dX9_holdsNow_28 : decode cX9_holdsNow 28 = .ok (.iload 4, 2) := by decide +kernel
theorem dX9_holdsNow_30 : decode cX9_holdsNow 30 = .ok (.ifCond .ne 24, 3) := by decide +kernel
theorem dX9_holdsNow_54 : decode cX9_holdsNow 54 = .ok (.goto (-52), 3) := by decide +kernel
theorem dX9_holdsNow_33 : decode cX9_holdsNow 33 = .ok (.aload_n 0, 1) := by decide +kernel
theorem dX9_holdsNow_34 : decode cX9_holdsNow 34 = .ok (.getfield 396, 3) := by decide +kernel
theorem dX9_holdsNow_37 : decode cX9_holdsNow 37 = .ok (.ifCond .le 17, 3) := by decide +kernel
theorem dX9_holdsNow_40 : decode cX9_holdsNow 40 = .ok (.aload_n 0, 1) := by decide +kernel
theorem dX9_holdsNow_41 : decode cX9_holdsNow 41 = .ok (.iload_n 1, 1) := by decide +kernel
theorem dX9_holdsNow_42 : decode cX9_holdsNow 42 = .ok (.iload_n 2, 1) := by decide +kernel
theorem dX9_holdsNow_43 : decode cX9_holdsNow 43 = .ok (.iload_n 3, 1) := by decide +kernel
theorem dX9_holdsNow_44 : decode cX9_holdsNow 44 = .ok (.invokevirtual 465, 3) := by decide +kernel
theorem dX9_holdsNow_47 : decode cX9_holdsNow 47 = .ok (.ifCond .eq 7, 3) := by decide +kernel
theorem dX9_holdsNow_50 : decode cX9_holdsNow 50 = .ok (.sipush 2000, 3) := by decide +kernel
theorem dX9_holdsNow_53 : decode cX9_holdsNow 53 = .ok (.ireturn, 1) := by decide +kernel
theorem dX9_holdsOf_0 : decode cX9_holdsOf 0 = .ok (.aload_n 0, 1) := by decide +kernel
theorem dX9_holdsOf_1 : decode cX9_holdsOf 1 = .ok (.iconst 3, 1) := by decide +kernel
theorem dX9_holdsOf_2 : decode cX9_holdsOf 2 = .ok (.invokevirtual 471, 3) := by decide +kernel
theorem dX9_holdsOf_5 : decode cX9_holdsOf 5 = .ok (.aload_n 0, 1) := by decide +kernel
theorem dX9_holdsOf_6 : decode cX9_holdsOf 6 = .ok (.iload_n 1, 1) := by decide +kernel
theorem dX9_holdsOf_7 : decode cX9_holdsOf 7 = .ok (.iload_n 2, 1) := by decide +kernel
theorem dX9_holdsOf_8 : decode cX9_holdsOf 8 = .ok (.iload_n 3, 1) := by decide +kernel
theorem dX9_holdsOf_9 : decode cX9_holdsOf 9 = .ok (.iload 6, 2) := by decide +kernel
theorem dX9_holdsOf_11 : decode cX9_holdsOf 11 = .ok (.invokevirtual 402, 3) := by decide +kernel
theorem dX9_holdsOf_14 : decode cX9_holdsOf 14 = .ok (.aload_n 0, 1) := by decide +kernel
theorem dX9_holdsOf_15 : decode cX9_holdsOf 15 = .ok (.iload 4, 2) := by decide +kernel
theorem dX9_holdsOf_17 : decode cX9_holdsOf 17 = .ok (.iload 5, 2) := by decide +kernel
theorem dX9_holdsOf_19 : decode cX9_holdsOf 19 = .ok (.invokevirtual 475, 3) := by decide +kernel
theorem dX9_holdsOf_22 : decode cX9_holdsOf 22 = .ok (.istore 7, 2) := by decide +kernel
theorem dX9_holdsOf_24 : decode cX9_holdsOf 24 = .ok (.aload_n 0, 1) := by decide +kernel
theorem dX9_holdsOf_25 : decode cX9_holdsOf 25 = .ok (.iconst 3, 1) := by decide +kernel
theorem dX9_holdsOf_26 : decode cX9_holdsOf 26 = .ok (.invokevirtual 478, 3) := by decide +kernel
theorem dX9_holdsOf_29 : decode cX9_holdsOf 29 = .ok (.iload 7, 2) := by decide +kernel
theorem dX9_holdsOf_31 : decode cX9_holdsOf 31 = .ok (.ireturn, 1) := by decide +kernel
theorem dX9_holdsKnot_0 : decode cX9_holdsKnot 0 = .ok (.aload_n 0, 1) := by decide +kernel
theorem dX9_holdsKnot_1 : decode cX9_holdsKnot 1 = .ok (.aload_n 0, 1) := by decide +kernel
theorem dX9_holdsKnot_2 : decode cX9_holdsKnot 2 = .ok (.getfield 68, 3) := by decide +kernel
theorem dX9_holdsKnot_5 : decode cX9_holdsKnot 5 = .ok (.bipush 6, 2) := by decide +kernel
theorem dX9_holdsKnot_7 : decode cX9_holdsKnot 7 = .ok (.aload_n 0, 1) := by decide +kernel
theorem dX9_holdsKnot_8 : decode cX9_holdsKnot 8 = .ok (.getfield 291, 3) := by decide +kernel
theorem dX9_holdsKnot_11 : decode cX9_holdsKnot 11 = .ok (.imul, 1) := by decide +kernel
theorem dX9_holdsKnot_12 : decode cX9_holdsKnot 12 = .ok (.iload_n 1, 1) := by decide +kernel
theorem dX9_holdsKnot_13 : decode cX9_holdsKnot 13 = .ok (.iadd, 1) := by decide +kernel
theorem dX9_holdsKnot_14 : decode cX9_holdsKnot 14 = .ok (.iaload, 1) := by decide +kernel
theorem dX9_holdsKnot_15 : decode cX9_holdsKnot 15 = .ok (.aload_n 0, 1) := by decide +kernel
theorem dX9_holdsKnot_16 : decode cX9_holdsKnot 16 = .ok (.getfield 71, 3) := by decide +kernel
theorem dX9_holdsKnot_19 : decode cX9_holdsKnot 19 = .ok (.bipush 6, 2) := by decide +kernel
theorem dX9_holdsKnot_21 : decode cX9_holdsKnot 21 = .ok (.aload_n 0, 1) := by decide +kernel
theorem dX9_holdsKnot_22 : decode cX9_holdsKnot 22 = .ok (.getfield 291, 3) := by decide +kernel
theorem dX9_holdsKnot_25 : decode cX9_holdsKnot 25 = .ok (.imul, 1) := by decide +kernel
theorem dX9_holdsKnot_26 : decode cX9_holdsKnot 26 = .ok (.iload_n 1, 1) := by decide +kernel
theorem dX9_holdsKnot_27 : decode cX9_holdsKnot 27 = .ok (.iadd, 1) := by decide +kernel
theorem dX9_holdsKnot_28 : decode cX9_holdsKnot 28 = .ok (.iaload, 1) := by decide +kernel
theorem dX9_holdsKnot_29 : decode cX9_holdsKnot 29 = .ok (.iload_n 2, 1) := by decide +kernel
theorem dX9_holdsKnot_30 : decode cX9_holdsKnot 30 = .ok (.iload_n 3, 1) := by decide +kernel
theorem dX9_holdsKnot_31 : decode cX9_holdsKnot 31 = .ok (.iload 4, 2) := by decide +kernel
theorem dX9_holdsKnot_33 : decode cX9_holdsKnot 33 = .ok (.aload_n 0, 1) := by decide +kernel
theorem dX9_holdsKnot_34 : decode cX9_holdsKnot 34 = .ok (.getfield 80, 3) := by decide +kernel
theorem dX9_holdsKnot_37 : decode cX9_holdsKnot 37 = .ok (.iconst 4, 1) := by decide +kernel
theorem dX9_holdsKnot_38 : decode cX9_holdsKnot 38 = .ok (.aload_n 0, 1) := by decide +kernel
theorem dX9_holdsKnot_39 : decode cX9_holdsKnot 39 = .ok (.getfield 291, 3) := by decide +kernel
theorem dX9_holdsKnot_42 : decode cX9_holdsKnot 42 = .ok (.imul, 1) := by decide +kernel
theorem dX9_holdsKnot_43 : decode cX9_holdsKnot 43 = .ok (.iload_n 2, 1) := by decide +kernel
theorem dX9_holdsKnot_44 : decode cX9_holdsKnot 44 = .ok (.iadd, 1) := by decide +kernel
theorem dX9_holdsKnot_45 : decode cX9_holdsKnot 45 = .ok (.iaload, 1) := by decide +kernel
theorem dX9_holdsKnot_46 : decode cX9_holdsKnot 46 = .ok (.invokevirtual 481, 3) := by decide +kernel
theorem dX9_holdsKnot_49 : decode cX9_holdsKnot 49 = .ok (.ireturn, 1) := by decide +kernel
theorem dX9_holds_0 : decode cX9_holds 0 = .ok (.aload_n 0, 1) := by decide +kernel
theorem dX9_holds_1 : decode cX9_holds 1 = .ok (.iload_n 1, 1) := by decide +kernel
theorem dX9_holds_2 : decode cX9_holds 2 = .ok (.iload_n 2, 1) := by decide +kernel
theorem dX9_holds_3 : decode cX9_holds 3 = .ok (.iload_n 3, 1) := by decide +kernel
theorem dX9_holds_4 : decode cX9_holds 4 = .ok (.invokevirtual 485, 3) := by decide +kernel
theorem dX9_holds_7 : decode cX9_holds 7 = .ok (.ifCond .eq 24, 3) := by decide +kernel
theorem dX9_holds_10 : decode cX9_holds 10 = .ok (.aload_n 0, 1) := by decide +kernel
theorem dX9_holds_11 : decode cX9_holds 11 = .ok (.iload 4, 2) := by decide +kernel
theorem dX9_holds_13 : decode cX9_holds 13 = .ok (.invokevirtual 488, 3) := by decide +kernel
theorem dX9_holds_16 : decode cX9_holds 16 = .ok (.ifCond .eq 15, 3) := by decide +kernel
theorem dX9_holds_19 : decode cX9_holds 19 = .ok (.aload_n 0, 1) := by decide +kernel
theorem dX9_holds_20 : decode cX9_holds 20 = .ok (.iload_n 1, 1) := by decide +kernel
theorem dX9_holds_21 : decode cX9_holds 21 = .ok (.iload_n 2, 1) := by decide +kernel
theorem dX9_holds_22 : decode cX9_holds 22 = .ok (.iload_n 3, 1) := by decide +kernel
theorem dX9_holds_23 : decode cX9_holds 23 = .ok (.iload 4, 2) := by decide +kernel
theorem dX9_holds_25 : decode cX9_holds 25 = .ok (.invokevirtual 491, 3) := by decide +kernel
theorem dX9_holds_28 : decode cX9_holds 28 = .ok (.goto 4, 3) := by decide +kernel
theorem dX9_holds_32 : decode cX9_holds 32 = .ok (.ireturn, 1) := by decide +kernel
theorem dX9_holds_31 : decode cX9_holds 31 = .ok (.iconst (-1), 1) := by decide +kernel
theorem dX9_begins_0 : decode cX9_begins 0 = .ok (.aload_n 0, 1) := by decide +kernel
theorem dX9_begins_1 : decode cX9_begins 1 = .ok (.iload_n 1, 1) := by decide +kernel
theorem dX9_begins_2 : decode cX9_begins 2 = .ok (.iload_n 2, 1) := by decide +kernel
theorem dX9_begins_3 : decode cX9_begins 3 = .ok (.iload_n 3, 1) := by decide +kernel
theorem dX9_begins_4 : decode cX9_begins 4 = .ok (.invokevirtual 485, 3) := by decide +kernel
theorem dX9_begins_7 : decode cX9_begins 7 = .ok (.ifCond .ne 5, 3) := by decide +kernel
theorem dX9_begins_12 : decode cX9_begins 12 = .ok (.aload_n 0, 1) := by decide +kernel
theorem dX9_begins_13 : decode cX9_begins 13 = .ok (.iconst 3, 1) := by decide +kernel
theorem dX9_begins_14 : decode cX9_begins 14 = .ok (.invokevirtual 471, 3) := by decide +kernel
theorem dX9_begins_17 : decode cX9_begins 17 = .ok (.aload_n 0, 1) := by decide +kernel
theorem dX9_begins_18 : decode cX9_begins 18 = .ok (.iload_n 1, 1) := by decide +kernel
theorem dX9_begins_19 : decode cX9_begins 19 = .ok (.iload_n 2, 1) := by decide +kernel
theorem dX9_begins_20 : decode cX9_begins 20 = .ok (.invokevirtual 437, 3) := by decide +kernel
theorem dX9_begins_23 : decode cX9_begins 23 = .ok (.iconst (-1), 1) := by decide +kernel
theorem dX9_begins_24 : decode cX9_begins 24 = .ok (.istore 4, 2) := by decide +kernel
theorem dX9_begins_26 : decode cX9_begins 26 = .ok (.iconst 0, 1) := by decide +kernel
theorem dX9_begins_27 : decode cX9_begins 27 = .ok (.istore 5, 2) := by decide +kernel
theorem dX9_begins_29 : decode cX9_begins 29 = .ok (.iconst 0, 1) := by decide +kernel
theorem dX9_begins_30 : decode cX9_begins 30 = .ok (.istore 6, 2) := by decide +kernel
theorem dX9_begins_32 : decode cX9_begins 32 = .ok (.aload_n 0, 1) := by decide +kernel
theorem dX9_begins_33 : decode cX9_begins 33 = .ok (.getfield 396, 3) := by decide +kernel
theorem dX9_begins_36 : decode cX9_begins 36 = .ok (.ifCond .le 58, 3) := by decide +kernel
theorem dX9_begins_94 : decode cX9_begins 94 = .ok (.aload_n 0, 1) := by decide +kernel
theorem dX9_begins_95 : decode cX9_begins 95 = .ok (.getfield 396, 3) := by decide +kernel
theorem dX9_begins_98 : decode cX9_begins 98 = .ok (.ifCond .ne 7, 3) := by decide +kernel
theorem dX9_begins_105 : decode cX9_begins 105 = .ok (.iconst 0, 1) := by decide +kernel
theorem dX9_begins_106 : decode cX9_begins 106 = .ok (.istore 7, 2) := by decide +kernel
theorem dX9_begins_108 : decode cX9_begins 108 = .ok (.aload_n 0, 1) := by decide +kernel
theorem dX9_begins_109 : decode cX9_begins 109 = .ok (.iconst 3, 1) := by decide +kernel
theorem dX9_begins_110 : decode cX9_begins 110 = .ok (.invokevirtual 478, 3) := by decide +kernel
theorem dX9_begins_113 : decode cX9_begins 113 = .ok (.iload 7, 2) := by decide +kernel
theorem dX9_begins_115 : decode cX9_begins 115 = .ok (.ifCond .eq 8, 3) := by decide +kernel
theorem dX9_begins_123 : decode cX9_begins 123 = .ok (.iconst (-1), 1) := by decide +kernel
theorem dX9_begins_124 : decode cX9_begins 124 = .ok (.ireturn, 1) := by decide +kernel
theorem dX9_begins_101 : decode cX9_begins 101 = .ok (.iconst 1, 1) := by decide +kernel
theorem dX9_begins_102 : decode cX9_begins 102 = .ok (.goto 4, 3) := by decide +kernel
theorem dX9_begins_118 : decode cX9_begins 118 = .ok (.iload 4, 2) := by decide +kernel
theorem dX9_begins_120 : decode cX9_begins 120 = .ok (.goto 4, 3) := by decide +kernel
theorem dX9_begins_39 : decode cX9_begins 39 = .ok (.iload 6, 2) := by decide +kernel
theorem dX9_begins_41 : decode cX9_begins 41 = .ok (.sipush 2000, 3) := by decide +kernel
theorem dX9_begins_44 : decode cX9_begins 44 = .ok (.if_icmp .ge 50, 3) := by decide +kernel
theorem dX9_begins_47 : decode cX9_begins 47 = .ok (.aload_n 0, 1) := by decide +kernel
theorem dX9_begins_48 : decode cX9_begins 48 = .ok (.iload_n 3, 1) := by decide +kernel
theorem dX9_begins_49 : decode cX9_begins 49 = .ok (.iload 6, 2) := by decide +kernel
theorem dX9_begins_51 : decode cX9_begins 51 = .ok (.iconst 0, 1) := by decide +kernel
theorem dX9_begins_52 : decode cX9_begins 52 = .ok (.invokevirtual 462, 3) := by decide +kernel
theorem dX9_begins_55 : decode cX9_begins 55 = .ok (.istore 7, 2) := by decide +kernel
theorem dX9_begins_57 : decode cX9_begins 57 = .ok (.iinc 6 1, 3) := by decide +kernel
theorem dX9_begins_60 : decode cX9_begins 60 = .ok (.iload 7, 2) := by decide +kernel
theorem dX9_begins_62 : decode cX9_begins 62 = .ok (.ifCond .eq 10, 3) := by decide +kernel
theorem dX9_begins_72 : decode cX9_begins 72 = .ok (.iconst (-1), 1) := by decide +kernel
theorem dX9_begins_73 : decode cX9_begins 73 = .ok (.istore 4, 2) := by decide +kernel
theorem dX9_begins_75 : decode cX9_begins 75 = .ok (.goto 12, 3) := by decide +kernel
theorem dX9_begins_87 : decode cX9_begins 87 = .ok (.iload 7, 2) := by decide +kernel
theorem dX9_begins_89 : decode cX9_begins 89 = .ok (.istore 5, 2) := by decide +kernel
theorem dX9_begins_91 : decode cX9_begins 91 = .ok (.goto (-59), 3) := by decide +kernel
theorem dX9_begins_65 : decode cX9_begins 65 = .ok (.iload 7, 2) := by decide +kernel
theorem dX9_begins_67 : decode cX9_begins 67 = .ok (.iload 5, 2) := by decide +kernel
theorem dX9_begins_69 : decode cX9_begins 69 = .ok (.if_icmp .ge 9, 3) := by decide +kernel
theorem dX9_begins_78 : decode cX9_begins 78 = .ok (.iload 4, 2) := by decide +kernel
theorem dX9_begins_80 : decode cX9_begins 80 = .ok (.ifCond .ge 7, 3) := by decide +kernel
theorem dX9_begins_83 : decode cX9_begins 83 = .ok (.iload 6, 2) := by decide +kernel
theorem dX9_begins_85 : decode cX9_begins 85 = .ok (.istore 4, 2) := by decide +kernel
theorem dX9_begins_10 : decode cX9_begins 10 = .ok (.iconst (-1), 1) := by decide +kernel
theorem dX9_begins_11 : decode cX9_begins 11 = .ok (.ireturn, 1) := by decide +kernel
theorem dX9_alone_0 : decode cX9_alone 0 = .ok (.aload_n 0, 1) := by decide +kernel
theorem dX9_alone_1 : decode cX9_alone 1 = .ok (.iload_n 1, 1) := by decide +kernel
theorem dX9_alone_2 : decode cX9_alone 2 = .ok (.iload_n 2, 1) := by decide +kernel
theorem dX9_alone_3 : decode cX9_alone 3 = .ok (.iload_n 3, 1) := by decide +kernel
theorem dX9_alone_4 : decode cX9_alone 4 = .ok (.invokevirtual 485, 3) := by decide +kernel
theorem dX9_alone_7 : decode cX9_alone 7 = .ok (.ifCond .eq 13, 3) := by decide +kernel
theorem dX9_alone_10 : decode cX9_alone 10 = .ok (.iload 4, 2) := by decide +kernel
theorem dX9_alone_12 : decode cX9_alone 12 = .ok (.iconst 0, 1) := by decide +kernel
theorem dX9_alone_13 : decode cX9_alone 13 = .ok (.iconst 1, 1) := by decide +kernel
theorem dX9_alone_14 : decode cX9_alone 14 = .ok (.invokestatic 389, 3) := by decide +kernel
theorem dX9_alone_17 : decode cX9_alone 17 = .ok (.ifCond .ne 5, 3) := by decide +kernel
theorem dX9_alone_22 : decode cX9_alone 22 = .ok (.aload_n 0, 1) := by decide +kernel
theorem dX9_alone_23 : decode cX9_alone 23 = .ok (.iload 4, 2) := by decide +kernel
theorem dX9_alone_25 : decode cX9_alone 25 = .ok (.ifCond .ne 8, 3) := by decide +kernel
theorem dX9_alone_33 : decode cX9_alone 33 = .ok (.iconst 0, 1) := by decide +kernel
theorem dX9_alone_34 : decode cX9_alone 34 = .ok (.putfield 424, 3) := by decide +kernel
theorem dX9_alone_37 : decode cX9_alone 37 = .ok (.aload_n 0, 1) := by decide +kernel
theorem dX9_alone_38 : decode cX9_alone 38 = .ok (.iload 4, 2) := by decide +kernel
theorem dX9_alone_40 : decode cX9_alone 40 = .ok (.iconst 1, 1) := by decide +kernel
theorem dX9_alone_41 : decode cX9_alone 41 = .ok (.if_icmp .ne 8, 3) := by decide +kernel
theorem dX9_alone_49 : decode cX9_alone 49 = .ok (.iconst 0, 1) := by decide +kernel
theorem dX9_alone_50 : decode cX9_alone 50 = .ok (.putfield 421, 3) := by decide +kernel
theorem dX9_alone_53 : decode cX9_alone 53 = .ok (.aload_n 0, 1) := by decide +kernel
theorem dX9_alone_54 : decode cX9_alone 54 = .ok (.iload_n 1, 1) := by decide +kernel
theorem dX9_alone_55 : decode cX9_alone 55 = .ok (.iload_n 2, 1) := by decide +kernel
theorem dX9_alone_56 : decode cX9_alone 56 = .ok (.iload_n 3, 1) := by decide +kernel
theorem dX9_alone_57 : decode cX9_alone 57 = .ok (.iconst 0, 1) := by decide +kernel
theorem dX9_alone_58 : decode cX9_alone 58 = .ok (.invokevirtual 491, 3) := by decide +kernel
theorem dX9_alone_61 : decode cX9_alone 61 = .ok (.istore 5, 2) := by decide +kernel
theorem dX9_alone_63 : decode cX9_alone 63 = .ok (.aload_n 0, 1) := by decide +kernel
theorem dX9_alone_64 : decode cX9_alone 64 = .ok (.iconst 0, 1) := by decide +kernel
theorem dX9_alone_65 : decode cX9_alone 65 = .ok (.putfield 424, 3) := by decide +kernel
theorem dX9_alone_68 : decode cX9_alone 68 = .ok (.aload_n 0, 1) := by decide +kernel
theorem dX9_alone_69 : decode cX9_alone 69 = .ok (.iconst 0, 1) := by decide +kernel
theorem dX9_alone_70 : decode cX9_alone 70 = .ok (.putfield 421, 3) := by decide +kernel
theorem dX9_alone_73 : decode cX9_alone 73 = .ok (.iload 5, 2) := by decide +kernel
theorem dX9_alone_75 : decode cX9_alone 75 = .ok (.ireturn, 1) := by decide +kernel
theorem dX9_alone_44 : decode cX9_alone 44 = .ok (.bipush 99, 2) := by decide +kernel
theorem dX9_alone_46 : decode cX9_alone 46 = .ok (.goto 4, 3) := by decide +kernel
theorem dX9_alone_28 : decode cX9_alone 28 = .ok (.bipush 99, 2) := by decide +kernel
theorem dX9_alone_30 : decode cX9_alone 30 = .ok (.goto 4, 3) := by decide +kernel
theorem dX9_alone_20 : decode cX9_alone 20 = .ok (.iconst (-1), 1) := by decide +kernel
theorem dX9_alone_21 : decode cX9_alone 21 = .ok (.ireturn, 1) := by decide +kernel
theorem dX9_undoneOf_0 : decode cX9_undoneOf 0 = .ok (.aload_n 0, 1) := by decide +kernel
theorem dX9_undoneOf_1 : decode cX9_undoneOf 1 = .ok (.iconst 3, 1) := by decide +kernel
theorem dX9_undoneOf_2 : decode cX9_undoneOf 2 = .ok (.invokevirtual 471, 3) := by decide +kernel
theorem dX9_undoneOf_5 : decode cX9_undoneOf 5 = .ok (.iconst (-1), 1) := by decide +kernel
theorem dX9_undoneOf_6 : decode cX9_undoneOf 6 = .ok (.istore 4, 2) := by decide +kernel
theorem dX9_undoneOf_8 : decode cX9_undoneOf 8 = .ok (.iconst 0, 1) := by decide +kernel
theorem dX9_undoneOf_9 : decode cX9_undoneOf 9 = .ok (.istore 5, 2) := by decide +kernel
theorem dX9_undoneOf_11 : decode cX9_undoneOf 11 = .ok (.iload 5, 2) := by decide +kernel
theorem dX9_undoneOf_13 : decode cX9_undoneOf 13 = .ok (.sipush 999, 3) := by decide +kernel
theorem dX9_undoneOf_16 : decode cX9_undoneOf 16 = .ok (.if_icmp .gt 95, 3) := by decide +kernel
theorem dX9_undoneOf_111 : decode cX9_undoneOf 111 = .ok (.aload_n 0, 1) := by decide +kernel
theorem dX9_undoneOf_112 : decode cX9_undoneOf 112 = .ok (.iconst 3, 1) := by decide +kernel
theorem dX9_undoneOf_113 : decode cX9_undoneOf 113 = .ok (.invokevirtual 478, 3) := by decide +kernel
theorem dX9_undoneOf_116 : decode cX9_undoneOf 116 = .ok (.iload 4, 2) := by decide +kernel
theorem dX9_undoneOf_118 : decode cX9_undoneOf 118 = .ok (.ireturn, 1) := by decide +kernel
theorem dX9_undoneOf_19 : decode cX9_undoneOf 19 = .ok (.iload 4, 2) := by decide +kernel
theorem dX9_undoneOf_21 : decode cX9_undoneOf 21 = .ok (.ifCond .ge 90, 3) := by decide +kernel
theorem dX9_undoneOf_24 : decode cX9_undoneOf 24 = .ok (.aload_n 0, 1) := by decide +kernel
theorem dX9_undoneOf_25 : decode cX9_undoneOf 25 = .ok (.iload_n 1, 1) := by decide +kernel
theorem dX9_undoneOf_26 : decode cX9_undoneOf 26 = .ok (.iload_n 2, 1) := by decide +kernel
theorem dX9_undoneOf_27 : decode cX9_undoneOf 27 = .ok (.iload_n 3, 1) := by decide +kernel
theorem dX9_undoneOf_28 : decode cX9_undoneOf 28 = .ok (.aload_n 0, 1) := by decide +kernel
theorem dX9_undoneOf_29 : decode cX9_undoneOf 29 = .ok (.getfield 80, 3) := by decide +kernel
theorem dX9_undoneOf_32 : decode cX9_undoneOf 32 = .ok (.iconst 4, 1) := by decide +kernel
theorem dX9_undoneOf_33 : decode cX9_undoneOf 33 = .ok (.aload_n 0, 1) := by decide +kernel
theorem dX9_undoneOf_34 : decode cX9_undoneOf 34 = .ok (.getfield 291, 3) := by decide +kernel
theorem dX9_undoneOf_37 : decode cX9_undoneOf 37 = .ok (.imul, 1) := by decide +kernel
theorem dX9_undoneOf_38 : decode cX9_undoneOf 38 = .ok (.iload_n 3, 1) := by decide +kernel
theorem dX9_undoneOf_39 : decode cX9_undoneOf 39 = .ok (.iadd, 1) := by decide +kernel
theorem dX9_undoneOf_40 : decode cX9_undoneOf 40 = .ok (.iaload, 1) := by decide +kernel
theorem dX9_undoneOf_41 : decode cX9_undoneOf 41 = .ok (.invokevirtual 402, 3) := by decide +kernel
theorem dX9_undoneOf_44 : decode cX9_undoneOf 44 = .ok (.aload_n 0, 1) := by decide +kernel
theorem dX9_undoneOf_45 : decode cX9_undoneOf 45 = .ok (.iconst 0, 1) := by decide +kernel
theorem dX9_undoneOf_46 : decode cX9_undoneOf 46 = .ok (.putfield 376, 3) := by decide +kernel
theorem dX9_undoneOf_49 : decode cX9_undoneOf 49 = .ok (.aload_n 0, 1) := by decide +kernel
theorem dX9_undoneOf_50 : decode cX9_undoneOf 50 = .ok (.iconst 0, 1) := by decide +kernel
theorem dX9_undoneOf_51 : decode cX9_undoneOf 51 = .ok (.putfield 379, 3) := by decide +kernel
theorem dX9_undoneOf_54 : decode cX9_undoneOf 54 = .ok (.iconst 1, 1) := by decide +kernel
theorem dX9_undoneOf_55 : decode cX9_undoneOf 55 = .ok (.istore 6, 2) := by decide +kernel
theorem dX9_undoneOf_57 : decode cX9_undoneOf 57 = .ok (.iconst 0, 1) := by decide +kernel
theorem dX9_undoneOf_58 : decode cX9_undoneOf 58 = .ok (.istore 7, 2) := by decide +kernel
theorem dX9_undoneOf_60 : decode cX9_undoneOf 60 = .ok (.iload 7, 2) := by decide +kernel
theorem dX9_undoneOf_62 : decode cX9_undoneOf 62 = .ok (.bipush 100, 2) := by decide +kernel
theorem dX9_undoneOf_64 : decode cX9_undoneOf 64 = .ok (.if_icmp .ge 30, 3) := by decide +kernel
theorem dX9_undoneOf_94 : decode cX9_undoneOf 94 = .ok (.aload_n 0, 1) := by decide +kernel
theorem dX9_undoneOf_95 : decode cX9_undoneOf 95 = .ok (.getfield 396, 3) := by decide +kernel
theorem dX9_undoneOf_98 : decode cX9_undoneOf 98 = .ok (.ifCond .ne 7, 3) := by decide +kernel
theorem dX9_undoneOf_105 : decode cX9_undoneOf 105 = .ok (.iinc 5 10, 3) := by decide +kernel
theorem dX9_undoneOf_108 : decode cX9_undoneOf 108 = .ok (.goto (-97), 3) := by decide +kernel
theorem dX9_undoneOf_101 : decode cX9_undoneOf 101 = .ok (.iload 5, 2) := by decide +kernel
theorem dX9_undoneOf_103 : decode cX9_undoneOf 103 = .ok (.istore 4, 2) := by decide +kernel
theorem dX9_undoneOf_67 : decode cX9_undoneOf 67 = .ok (.iload 6, 2) := by decide +kernel
theorem dX9_undoneOf_69 : decode cX9_undoneOf 69 = .ok (.ifCond .le 25, 3) := by decide +kernel
theorem dX9_undoneOf_72 : decode cX9_undoneOf 72 = .ok (.aload_n 0, 1) := by decide +kernel
theorem dX9_undoneOf_73 : decode cX9_undoneOf 73 = .ok (.getfield 396, 3) := by decide +kernel
theorem dX9_undoneOf_76 : decode cX9_undoneOf 76 = .ok (.ifCond .le 18, 3) := by decide +kernel
theorem dX9_undoneOf_79 : decode cX9_undoneOf 79 = .ok (.aload_n 0, 1) := by decide +kernel
theorem dX9_undoneOf_80 : decode cX9_undoneOf 80 = .ok (.iconst 0, 1) := by decide +kernel
theorem dX9_undoneOf_81 : decode cX9_undoneOf 81 = .ok (.iload 5, 2) := by decide +kernel
theorem dX9_undoneOf_83 : decode cX9_undoneOf 83 = .ok (.invokevirtual 427, 3) := by decide +kernel
theorem dX9_undoneOf_86 : decode cX9_undoneOf 86 = .ok (.istore 6, 2) := by decide +kernel
theorem dX9_undoneOf_88 : decode cX9_undoneOf 88 = .ok (.iinc 7 1, 3) := by decide +kernel
theorem dX9_undoneOf_91 : decode cX9_undoneOf 91 = .ok (.goto (-31), 3) := by decide +kernel
theorem dX9_undoneKnot_0 : decode cX9_undoneKnot 0 = .ok (.aload_n 0, 1) := by decide +kernel
theorem dX9_undoneKnot_1 : decode cX9_undoneKnot 1 = .ok (.aload_n 0, 1) := by decide +kernel
theorem dX9_undoneKnot_2 : decode cX9_undoneKnot 2 = .ok (.getfield 68, 3) := by decide +kernel
theorem dX9_undoneKnot_5 : decode cX9_undoneKnot 5 = .ok (.bipush 6, 2) := by decide +kernel
theorem dX9_undoneKnot_7 : decode cX9_undoneKnot 7 = .ok (.aload_n 0, 1) := by decide +kernel
theorem dX9_undoneKnot_8 : decode cX9_undoneKnot 8 = .ok (.getfield 291, 3) := by decide +kernel
theorem dX9_undoneKnot_11 : decode cX9_undoneKnot 11 = .ok (.imul, 1) := by decide +kernel
theorem dX9_undoneKnot_12 : decode cX9_undoneKnot 12 = .ok (.iload_n 1, 1) := by decide +kernel
theorem dX9_undoneKnot_13 : decode cX9_undoneKnot 13 = .ok (.iadd, 1) := by decide +kernel
theorem dX9_undoneKnot_14 : decode cX9_undoneKnot 14 = .ok (.iaload, 1) := by decide +kernel
theorem dX9_undoneKnot_15 : decode cX9_undoneKnot 15 = .ok (.aload_n 0, 1) := by decide +kernel
theorem dX9_undoneKnot_16 : decode cX9_undoneKnot 16 = .ok (.getfield 71, 3) := by decide +kernel
theorem dX9_undoneKnot_19 : decode cX9_undoneKnot 19 = .ok (.bipush 6, 2) := by decide +kernel
theorem dX9_undoneKnot_21 : decode cX9_undoneKnot 21 = .ok (.aload_n 0, 1) := by decide +kernel
theorem dX9_undoneKnot_22 : decode cX9_undoneKnot 22 = .ok (.getfield 291, 3) := by decide +kernel
theorem dX9_undoneKnot_25 : decode cX9_undoneKnot 25 = .ok (.imul, 1) := by decide +kernel
theorem dX9_undoneKnot_26 : decode cX9_undoneKnot 26 = .ok (.iload_n 1, 1) := by decide +kernel
theorem dX9_undoneKnot_27 : decode cX9_undoneKnot 27 = .ok (.iadd, 1) := by decide +kernel
theorem dX9_undoneKnot_28 : decode cX9_undoneKnot 28 = .ok (.iaload, 1) := by decide +kernel
theorem dX9_undoneKnot_29 : decode cX9_undoneKnot 29 = .ok (.iload_n 2, 1) := by decide +kernel
theorem dX9_undoneKnot_30 : decode cX9_undoneKnot 30 = .ok (.invokevirtual 495, 3) := by decide +kernel
theorem dX9_undoneKnot_33 : decode cX9_undoneKnot 33 = .ok (.ireturn, 1) := by decide +kernel
theorem dX9_undone_0 : decode cX9_undone 0 = .ok (.aload_n 0, 1) := by decide +kernel
theorem dX9_undone_1 : decode cX9_undone 1 = .ok (.iload_n 1, 1) := by decide +kernel
theorem dX9_undone_2 : decode cX9_undone 2 = .ok (.invokevirtual 431, 3) := by decide +kernel
theorem dX9_undone_5 : decode cX9_undone 5 = .ok (.ifCond .eq 20, 3) := by decide +kernel
theorem dX9_undone_8 : decode cX9_undone 8 = .ok (.aload_n 0, 1) := by decide +kernel
theorem dX9_undone_9 : decode cX9_undone 9 = .ok (.iload_n 2, 1) := by decide +kernel
theorem dX9_undone_10 : decode cX9_undone 10 = .ok (.invokevirtual 434, 3) := by decide +kernel
theorem dX9_undone_13 : decode cX9_undone 13 = .ok (.ifCond .eq 12, 3) := by decide +kernel
theorem dX9_undone_16 : decode cX9_undone 16 = .ok (.aload_n 0, 1) := by decide +kernel
theorem dX9_undone_17 : decode cX9_undone 17 = .ok (.iload_n 1, 1) := by decide +kernel
theorem dX9_undone_18 : decode cX9_undone 18 = .ok (.iload_n 2, 1) := by decide +kernel
theorem dX9_undone_19 : decode cX9_undone 19 = .ok (.invokevirtual 498, 3) := by decide +kernel
theorem dX9_undone_22 : decode cX9_undone 22 = .ok (.goto 4, 3) := by decide +kernel
theorem dX9_undone_26 : decode cX9_undone 26 = .ok (.ireturn, 1) := by decide +kernel
theorem dX9_undone_25 : decode cX9_undone 25 = .ok (.iconst (-1), 1) := by decide +kernel
theorem dX9_isMet_0 : decode cX9_isMet 0 = .ok (.iconst 4, 1) := by decide +kernel
theorem dX9_isMet_1 : decode cX9_isMet 1 = .ok (.aload_n 0, 1) := by decide +kernel
theorem dX9_isMet_2 : decode cX9_isMet 2 = .ok (.getfield 291, 3) := by decide +kernel
theorem dX9_isMet_5 : decode cX9_isMet 5 = .ok (.imul, 1) := by decide +kernel
theorem dX9_isMet_6 : decode cX9_isMet 6 = .ok (.iload_n 1, 1) := by decide +kernel
theorem dX9_isMet_7 : decode cX9_isMet 7 = .ok (.iadd, 1) := by decide +kernel
theorem dX9_isMet_8 : decode cX9_isMet 8 = .ok (.istore 5, 2) := by decide +kernel
theorem dX9_isMet_10 : decode cX9_isMet 10 = .ok (.aload_n 0, 1) := by decide +kernel
theorem dX9_isMet_11 : decode cX9_isMet 11 = .ok (.iload_n 2, 1) := by decide +kernel
theorem dX9_isMet_12 : decode cX9_isMet 12 = .ok (.iload_n 3, 1) := by decide +kernel
theorem dX9_isMet_13 : decode cX9_isMet 13 = .ok (.iload 4, 2) := by decide +kernel
theorem dX9_isMet_15 : decode cX9_isMet 15 = .ok (.iconst 0, 1) := by decide +kernel
theorem dX9_isMet_16 : decode cX9_isMet 16 = .ok (.invokevirtual 491, 3) := by decide +kernel
theorem dX9_isMet_19 : decode cX9_isMet 19 = .ok (.aload_n 0, 1) := by decide +kernel
theorem dX9_isMet_20 : decode cX9_isMet 20 = .ok (.getfield 92, 3) := by decide +kernel
theorem dX9_isMet_23 : decode cX9_isMet 23 = .ok (.iload 5, 2) := by decide +kernel
theorem dX9_isMet_25 : decode cX9_isMet 25 = .ok (.iaload, 1) := by decide +kernel
theorem dX9_isMet_26 : decode cX9_isMet 26 = .ok (.if_icmp .ge 5, 3) := by decide +kernel
theorem dX9_isMet_31 : decode cX9_isMet 31 = .ok (.aload_n 0, 1) := by decide +kernel
theorem dX9_isMet_32 : decode cX9_isMet 32 = .ok (.iload_n 2, 1) := by decide +kernel
theorem dX9_isMet_33 : decode cX9_isMet 33 = .ok (.iload_n 3, 1) := by decide +kernel
theorem dX9_isMet_34 : decode cX9_isMet 34 = .ok (.invokevirtual 498, 3) := by decide +kernel
theorem dX9_isMet_37 : decode cX9_isMet 37 = .ok (.istore 6, 2) := by decide +kernel
theorem dX9_isMet_39 : decode cX9_isMet 39 = .ok (.iload 6, 2) := by decide +kernel
theorem dX9_isMet_41 : decode cX9_isMet 41 = .ok (.ifCond .lt 19, 3) := by decide +kernel
theorem dX9_isMet_60 : decode cX9_isMet 60 = .ok (.iconst 0, 1) := by decide +kernel
theorem dX9_isMet_61 : decode cX9_isMet 61 = .ok (.ireturn, 1) := by decide +kernel
theorem dX9_isMet_44 : decode cX9_isMet 44 = .ok (.iload 6, 2) := by decide +kernel
theorem dX9_isMet_46 : decode cX9_isMet 46 = .ok (.aload_n 0, 1) := by decide +kernel
theorem dX9_isMet_47 : decode cX9_isMet 47 = .ok (.getfield 95, 3) := by decide +kernel
theorem dX9_isMet_50 : decode cX9_isMet 50 = .ok (.iload 5, 2) := by decide +kernel
theorem dX9_isMet_52 : decode cX9_isMet 52 = .ok (.iaload, 1) := by decide +kernel
theorem dX9_isMet_53 : decode cX9_isMet 53 = .ok (.if_icmp .gt 7, 3) := by decide +kernel
theorem dX9_isMet_56 : decode cX9_isMet 56 = .ok (.iconst 1, 1) := by decide +kernel
theorem dX9_isMet_57 : decode cX9_isMet 57 = .ok (.goto 4, 3) := by decide +kernel
theorem dX9_isMet_29 : decode cX9_isMet 29 = .ok (.iconst 0, 1) := by decide +kernel
theorem dX9_isMet_30 : decode cX9_isMet 30 = .ok (.ireturn, 1) := by decide +kernel
theorem dX9_met_0 : decode cX9_met 0 = .ok (.aload_n 0, 1) := by decide +kernel
theorem dX9_met_1 : decode cX9_met 1 = .ok (.iload_n 1, 1) := by decide +kernel
theorem dX9_met_2 : decode cX9_met 2 = .ok (.invokevirtual 501, 3) := by decide +kernel
theorem dX9_met_5 : decode cX9_met 5 = .ok (.ifCond .eq 14, 3) := by decide +kernel
theorem dX9_met_8 : decode cX9_met 8 = .ok (.aload_n 0, 1) := by decide +kernel
theorem dX9_met_9 : decode cX9_met 9 = .ok (.iload_n 2, 1) := by decide +kernel
theorem dX9_met_10 : decode cX9_met 10 = .ok (.iload_n 3, 1) := by decide +kernel
theorem dX9_met_11 : decode cX9_met 11 = .ok (.iload 4, 2) := by decide +kernel
theorem dX9_met_13 : decode cX9_met 13 = .ok (.invokevirtual 485, 3) := by decide +kernel
theorem dX9_met_16 : decode cX9_met 16 = .ok (.ifCond .ne 7, 3) := by decide +kernel
theorem dX9_met_23 : decode cX9_met 23 = .ok (.aload_n 0, 1) := by decide +kernel
theorem dX9_met_24 : decode cX9_met 24 = .ok (.iload_n 1, 1) := by decide +kernel
theorem dX9_met_25 : decode cX9_met 25 = .ok (.iload_n 2, 1) := by decide +kernel
theorem dX9_met_26 : decode cX9_met 26 = .ok (.iload_n 3, 1) := by decide +kernel
theorem dX9_met_27 : decode cX9_met 27 = .ok (.iload 4, 2) := by decide +kernel
theorem dX9_met_29 : decode cX9_met 29 = .ok (.invokevirtual 504, 3) := by decide +kernel
theorem dX9_met_32 : decode cX9_met 32 = .ok (.ifCond .eq 7, 3) := by decide +kernel
theorem dX9_met_35 : decode cX9_met 35 = .ok (.iconst 1, 1) := by decide +kernel
theorem dX9_met_36 : decode cX9_met 36 = .ok (.goto 4, 3) := by decide +kernel
theorem dX9_met_40 : decode cX9_met 40 = .ok (.ireturn, 1) := by decide +kernel
theorem dX9_met_39 : decode cX9_met 39 = .ok (.iconst 0, 1) := by decide +kernel
theorem dX9_met_19 : decode cX9_met 19 = .ok (.iconst (-1), 1) := by decide +kernel
theorem dX9_met_20 : decode cX9_met 20 = .ok (.goto 20, 3) := by decide +kernel
theorem dX9_meets_0 : decode cX9_meets 0 = .ok (.aload_n 0, 1) := by decide +kernel
theorem dX9_meets_1 : decode cX9_meets 1 = .ok (.iload_n 1, 1) := by decide +kernel
theorem dX9_meets_2 : decode cX9_meets 2 = .ok (.invokevirtual 501, 3) := by decide +kernel
theorem dX9_meets_5 : decode cX9_meets 5 = .ok (.ifCond .eq 19, 3) := by decide +kernel
theorem dX9_meets_8 : decode cX9_meets 8 = .ok (.aload_n 0, 1) := by decide +kernel
theorem dX9_meets_9 : decode cX9_meets 9 = .ok (.iload_n 2, 1) := by decide +kernel
theorem dX9_meets_10 : decode cX9_meets 10 = .ok (.invokevirtual 434, 3) := by decide +kernel
theorem dX9_meets_13 : decode cX9_meets 13 = .ok (.ifCond .eq 11, 3) := by decide +kernel
theorem dX9_meets_16 : decode cX9_meets 16 = .ok (.aload_n 0, 1) := by decide +kernel
theorem dX9_meets_17 : decode cX9_meets 17 = .ok (.iload_n 3, 1) := by decide +kernel
theorem dX9_meets_18 : decode cX9_meets 18 = .ok (.invokevirtual 455, 3) := by decide +kernel
theorem dX9_meets_21 : decode cX9_meets 21 = .ok (.ifCond .ne 5, 3) := by decide +kernel
theorem dX9_meets_26 : decode cX9_meets 26 = .ok (.iconst 0, 1) := by decide +kernel
theorem dX9_meets_27 : decode cX9_meets 27 = .ok (.istore 4, 2) := by decide +kernel
theorem dX9_meets_29 : decode cX9_meets 29 = .ok (.iconst 0, 1) := by decide +kernel
theorem dX9_meets_30 : decode cX9_meets 30 = .ok (.istore 5, 2) := by decide +kernel
theorem dX9_meets_32 : decode cX9_meets 32 = .ok (.iload 5, 2) := by decide +kernel
theorem dX9_meets_34 : decode cX9_meets 34 = .ok (.aload_n 0, 1) := by decide +kernel
theorem dX9_meets_35 : decode cX9_meets 35 = .ok (.getfield 20, 3) := by decide +kernel
theorem dX9_meets_38 : decode cX9_meets 38 = .ok (.aload_n 0, 1) := by decide +kernel
theorem dX9_meets_39 : decode cX9_meets 39 = .ok (.getfield 291, 3) := by decide +kernel
theorem dX9_meets_42 : decode cX9_meets 42 = .ok (.iaload, 1) := by decide +kernel
theorem dX9_meets_43 : decode cX9_meets 43 = .ok (.if_icmp .ge 34, 3) := by decide +kernel
theorem dX9_meets_77 : decode cX9_meets 77 = .ok (.iload 4, 2) := by decide +kernel
theorem dX9_meets_79 : decode cX9_meets 79 = .ok (.ireturn, 1) := by decide +kernel
theorem dX9_meets_46 : decode cX9_meets 46 = .ok (.iload 4, 2) := by decide +kernel
theorem dX9_meets_48 : decode cX9_meets 48 = .ok (.aload_n 0, 1) := by decide +kernel
theorem dX9_meets_49 : decode cX9_meets 49 = .ok (.iload_n 1, 1) := by decide +kernel
theorem dX9_meets_50 : decode cX9_meets 50 = .ok (.iload 5, 2) := by decide +kernel
theorem dX9_meets_52 : decode cX9_meets 52 = .ok (.iload_n 2, 1) := by decide +kernel
theorem dX9_meets_53 : decode cX9_meets 53 = .ok (.iload_n 3, 1) := by decide +kernel
theorem dX9_meets_54 : decode cX9_meets 54 = .ok (.invokevirtual 504, 3) := by decide +kernel
theorem dX9_meets_57 : decode cX9_meets 57 = .ok (.ifCond .eq 10, 3) := by decide +kernel
theorem dX9_meets_60 : decode cX9_meets 60 = .ok (.iconst 1, 1) := by decide +kernel
theorem dX9_meets_61 : decode cX9_meets 61 = .ok (.iload 5, 2) := by decide +kernel
theorem dX9_meets_63 : decode cX9_meets 63 = .ok (.ishl, 1) := by decide +kernel
theorem dX9_meets_64 : decode cX9_meets 64 = .ok (.goto 4, 3) := by decide +kernel
theorem dX9_meets_68 : decode cX9_meets 68 = .ok (.ior, 1) := by decide +kernel
theorem dX9_meets_69 : decode cX9_meets 69 = .ok (.istore 4, 2) := by decide +kernel
theorem dX9_meets_71 : decode cX9_meets 71 = .ok (.iinc 5 1, 3) := by decide +kernel
theorem dX9_meets_74 : decode cX9_meets 74 = .ok (.goto (-42), 3) := by decide +kernel
theorem dX9_meets_67 : decode cX9_meets 67 = .ok (.iconst 0, 1) := by decide +kernel
theorem dX9_meets_24 : decode cX9_meets 24 = .ok (.iconst (-1), 1) := by decide +kernel
theorem dX9_meets_25 : decode cX9_meets 25 = .ok (.ireturn, 1) := by decide +kernel
theorem dX9_common_0 : decode cX9_common 0 = .ok (.iload_n 0, 1) := by decide +kernel
theorem dX9_common_1 : decode cX9_common 1 = .ok (.istore_n 2, 1) := by decide +kernel
theorem dX9_common_2 : decode cX9_common 2 = .ok (.iload_n 1, 1) := by decide +kernel
theorem dX9_common_3 : decode cX9_common 3 = .ok (.istore_n 3, 1) := by decide +kernel
theorem dX9_common_4 : decode cX9_common 4 = .ok (.iload_n 3, 1) := by decide +kernel
theorem dX9_common_5 : decode cX9_common 5 = .ok (.ifCond .eq 16, 3) := by decide +kernel
theorem dX9_common_21 : decode cX9_common 21 = .ok (.iload_n 2, 1) := by decide +kernel
theorem dX9_common_22 : decode cX9_common 22 = .ok (.ireturn, 1) := by decide +kernel
theorem dX9_common_8 : decode cX9_common 8 = .ok (.iload_n 2, 1) := by decide +kernel
theorem dX9_common_9 : decode cX9_common 9 = .ok (.iload_n 3, 1) := by decide +kernel
theorem dX9_common_10 : decode cX9_common 10 = .ok (.irem, 1) := by decide +kernel
theorem dX9_common_11 : decode cX9_common 11 = .ok (.istore 4, 2) := by decide +kernel
theorem dX9_common_13 : decode cX9_common 13 = .ok (.iload_n 3, 1) := by decide +kernel
theorem dX9_common_14 : decode cX9_common 14 = .ok (.istore_n 2, 1) := by decide +kernel
theorem dX9_common_15 : decode cX9_common 15 = .ok (.iload 4, 2) := by decide +kernel
theorem dX9_common_17 : decode cX9_common 17 = .ok (.istore_n 3, 1) := by decide +kernel
theorem dX9_common_18 : decode cX9_common 18 = .ok (.goto (-14), 3) := by decide +kernel
theorem dX9_odds_0 : decode cX9_odds 0 = .ok (.aload_n 0, 1) := by decide +kernel
theorem dX9_odds_1 : decode cX9_odds 1 = .ok (.iload_n 1, 1) := by decide +kernel
theorem dX9_odds_2 : decode cX9_odds 2 = .ok (.invokevirtual 431, 3) := by decide +kernel
theorem dX9_odds_5 : decode cX9_odds 5 = .ok (.ifCond .eq 45, 3) := by decide +kernel
theorem dX9_odds_8 : decode cX9_odds 8 = .ok (.iload_n 2, 1) := by decide +kernel
theorem dX9_odds_9 : decode cX9_odds 9 = .ok (.iconst 1, 1) := by decide +kernel
theorem dX9_odds_10 : decode cX9_odds 10 = .ok (.sipush 2000, 3) := by decide +kernel
theorem dX9_odds_13 : decode cX9_odds 13 = .ok (.invokestatic 389, 3) := by decide +kernel
theorem dX9_odds_16 : decode cX9_odds 16 = .ok (.ifCond .eq 34, 3) := by decide +kernel
theorem dX9_odds_19 : decode cX9_odds 19 = .ok (.iload_n 3, 1) := by decide +kernel
theorem dX9_odds_20 : decode cX9_odds 20 = .ok (.invokestatic 508, 3) := by decide +kernel
theorem dX9_odds_23 : decode cX9_odds 23 = .ok (.ifCond .eq 27, 3) := by decide +kernel
theorem dX9_odds_26 : decode cX9_odds 26 = .ok (.aload_n 0, 1) := by decide +kernel
theorem dX9_odds_27 : decode cX9_odds 27 = .ok (.getfield 24, 3) := by decide +kernel
theorem dX9_odds_30 : decode cX9_odds 30 = .ok (.aload_n 0, 1) := by decide +kernel
theorem dX9_odds_31 : decode cX9_odds 31 = .ok (.getfield 291, 3) := by decide +kernel
theorem dX9_odds_34 : decode cX9_odds 34 = .ok (.iaload, 1) := by decide +kernel
theorem dX9_odds_35 : decode cX9_odds 35 = .ok (.ifCond .eq 15, 3) := by decide +kernel
theorem dX9_odds_50 : decode cX9_odds 50 = .ok (.iconst (-1), 1) := by decide +kernel
theorem dX9_odds_51 : decode cX9_odds 51 = .ok (.ireturn, 1) := by decide +kernel
theorem dX9_odds_38 : decode cX9_odds 38 = .ok (.aload_n 0, 1) := by decide +kernel
theorem dX9_odds_39 : decode cX9_odds 39 = .ok (.getfield 27, 3) := by decide +kernel
theorem dX9_odds_42 : decode cX9_odds 42 = .ok (.aload_n 0, 1) := by decide +kernel
theorem dX9_odds_43 : decode cX9_odds 43 = .ok (.getfield 291, 3) := by decide +kernel
theorem dX9_odds_46 : decode cX9_odds 46 = .ok (.iaload, 1) := by decide +kernel
theorem dX9_odds_47 : decode cX9_odds 47 = .ok (.ifCond .ne 5, 3) := by decide +kernel
theorem dX9_odds_52 : decode cX9_odds 52 = .ok (.iconst 0, 1) := by decide +kernel
theorem dX9_odds_53 : decode cX9_odds 53 = .ok (.istore 4, 2) := by decide +kernel
theorem dX9_odds_55 : decode cX9_odds 55 = .ok (.iconst 0, 1) := by decide +kernel
theorem dX9_odds_56 : decode cX9_odds 56 = .ok (.istore 5, 2) := by decide +kernel
theorem dX9_odds_58 : decode cX9_odds 58 = .ok (.iload 5, 2) := by decide +kernel
theorem dX9_odds_60 : decode cX9_odds 60 = .ok (.aload_n 0, 1) := by decide +kernel
theorem dX9_odds_61 : decode cX9_odds 61 = .ok (.getfield 24, 3) := by decide +kernel
theorem dX9_odds_64 : decode cX9_odds 64 = .ok (.aload_n 0, 1) := by decide +kernel
theorem dX9_odds_65 : decode cX9_odds 65 = .ok (.getfield 291, 3) := by decide +kernel
theorem dX9_odds_68 : decode cX9_odds 68 = .ok (.iaload, 1) := by decide +kernel
theorem dX9_odds_69 : decode cX9_odds 69 = .ok (.if_icmp .ge 56, 3) := by decide +kernel
theorem dX9_odds_125 : decode cX9_odds 125 = .ok (.aload_n 0, 1) := by decide +kernel
theorem dX9_odds_126 : decode cX9_odds 126 = .ok (.getfield 24, 3) := by decide +kernel
theorem dX9_odds_129 : decode cX9_odds 129 = .ok (.aload_n 0, 1) := by decide +kernel
theorem dX9_odds_130 : decode cX9_odds 130 = .ok (.getfield 291, 3) := by decide +kernel
theorem dX9_odds_133 : decode cX9_odds 133 = .ok (.iaload, 1) := by decide +kernel
theorem dX9_odds_134 : decode cX9_odds 134 = .ok (.aload_n 0, 1) := by decide +kernel
theorem dX9_odds_135 : decode cX9_odds 135 = .ok (.getfield 27, 3) := by decide +kernel
theorem dX9_odds_138 : decode cX9_odds 138 = .ok (.aload_n 0, 1) := by decide +kernel
theorem dX9_odds_139 : decode cX9_odds 139 = .ok (.getfield 291, 3) := by decide +kernel
theorem dX9_odds_142 : decode cX9_odds 142 = .ok (.iaload, 1) := by decide +kernel
theorem dX9_odds_143 : decode cX9_odds 143 = .ok (.imul, 1) := by decide +kernel
theorem dX9_odds_144 : decode cX9_odds 144 = .ok (.istore 5, 2) := by decide +kernel
theorem dX9_odds_146 : decode cX9_odds 146 = .ok (.iload 4, 2) := by decide +kernel
theorem dX9_odds_148 : decode cX9_odds 148 = .ok (.iload 5, 2) := by decide +kernel
theorem dX9_odds_150 : decode cX9_odds 150 = .ok (.invokestatic 511, 3) := by decide +kernel
theorem dX9_odds_153 : decode cX9_odds 153 = .ok (.istore 6, 2) := by decide +kernel
theorem dX9_odds_155 : decode cX9_odds 155 = .ok (.iload_n 3, 1) := by decide +kernel
theorem dX9_odds_156 : decode cX9_odds 156 = .ok (.ifCond .ne 11, 3) := by decide +kernel
theorem dX9_odds_167 : decode cX9_odds 167 = .ok (.iload 5, 2) := by decide +kernel
theorem dX9_odds_169 : decode cX9_odds 169 = .ok (.iload 6, 2) := by decide +kernel
theorem dX9_odds_171 : decode cX9_odds 171 = .ok (.idiv, 1) := by decide +kernel
theorem dX9_odds_172 : decode cX9_odds 172 = .ok (.ireturn, 1) := by decide +kernel
theorem dX9_odds_159 : decode cX9_odds 159 = .ok (.iload 4, 2) := by decide +kernel
theorem dX9_odds_161 : decode cX9_odds 161 = .ok (.iload 6, 2) := by decide +kernel
theorem dX9_odds_163 : decode cX9_odds 163 = .ok (.idiv, 1) := by decide +kernel
theorem dX9_odds_164 : decode cX9_odds 164 = .ok (.goto 8, 3) := by decide +kernel
theorem dX9_odds_72 : decode cX9_odds 72 = .ok (.iconst 0, 1) := by decide +kernel
theorem dX9_odds_73 : decode cX9_odds 73 = .ok (.istore 6, 2) := by decide +kernel
theorem dX9_odds_75 : decode cX9_odds 75 = .ok (.iload 6, 2) := by decide +kernel
theorem dX9_odds_77 : decode cX9_odds 77 = .ok (.aload_n 0, 1) := by decide +kernel
theorem dX9_odds_78 : decode cX9_odds 78 = .ok (.getfield 27, 3) := by decide +kernel
theorem dX9_odds_81 : decode cX9_odds 81 = .ok (.aload_n 0, 1) := by decide +kernel
theorem dX9_odds_82 : decode cX9_odds 82 = .ok (.getfield 291, 3) := by decide +kernel
theorem dX9_odds_85 : decode cX9_odds 85 = .ok (.iaload, 1) := by decide +kernel
theorem dX9_odds_86 : decode cX9_odds 86 = .ok (.if_icmp .ge 33, 3) := by decide +kernel
theorem dX9_odds_119 : decode cX9_odds 119 = .ok (.iinc 5 1, 3) := by decide +kernel
theorem dX9_odds_122 : decode cX9_odds 122 = .ok (.goto (-64), 3) := by decide +kernel
theorem dX9_odds_89 : decode cX9_odds 89 = .ok (.iload 4, 2) := by decide +kernel
theorem dX9_odds_91 : decode cX9_odds 91 = .ok (.aload_n 0, 1) := by decide +kernel
theorem dX9_odds_92 : decode cX9_odds 92 = .ok (.iload_n 1, 1) := by decide +kernel
theorem dX9_odds_93 : decode cX9_odds 93 = .ok (.iload 5, 2) := by decide +kernel
theorem dX9_odds_95 : decode cX9_odds 95 = .ok (.iload 6, 2) := by decide +kernel
theorem dX9_odds_97 : decode cX9_odds 97 = .ok (.iconst 0, 1) := by decide +kernel
theorem dX9_odds_98 : decode cX9_odds 98 = .ok (.invokevirtual 491, 3) := by decide +kernel
theorem dX9_odds_101 : decode cX9_odds 101 = .ok (.iload_n 2, 1) := by decide +kernel
theorem dX9_odds_102 : decode cX9_odds 102 = .ok (.if_icmp .lt 7, 3) := by decide +kernel
theorem dX9_odds_109 : decode cX9_odds 109 = .ok (.iconst 0, 1) := by decide +kernel
theorem dX9_odds_110 : decode cX9_odds 110 = .ok (.iadd, 1) := by decide +kernel
theorem dX9_odds_111 : decode cX9_odds 111 = .ok (.istore 4, 2) := by decide +kernel
theorem dX9_odds_113 : decode cX9_odds 113 = .ok (.iinc 6 1, 3) := by decide +kernel
theorem dX9_odds_116 : decode cX9_odds 116 = .ok (.goto (-41), 3) := by decide +kernel
theorem dX9_odds_105 : decode cX9_odds 105 = .ok (.iconst 1, 1) := by decide +kernel
theorem dX9_odds_106 : decode cX9_odds 106 = .ok (.goto 4, 3) := by decide +kernel
theorem dX9_worseBy_0 : decode cX9_worseBy 0 = .ok (.bipush 6, 2) := by decide +kernel
theorem dX9_worseBy_2 : decode cX9_worseBy 2 = .ok (.aload_n 0, 1) := by decide +kernel
theorem dX9_worseBy_3 : decode cX9_worseBy 3 = .ok (.getfield 291, 3) := by decide +kernel
theorem dX9_worseBy_6 : decode cX9_worseBy 6 = .ok (.imul, 1) := by decide +kernel
theorem dX9_worseBy_7 : decode cX9_worseBy 7 = .ok (.iload_n 1, 1) := by decide +kernel
theorem dX9_worseBy_8 : decode cX9_worseBy 8 = .ok (.iadd, 1) := by decide +kernel
theorem dX9_worseBy_9 : decode cX9_worseBy 9 = .ok (.istore 5, 2) := by decide +kernel
theorem dX9_worseBy_11 : decode cX9_worseBy 11 = .ok (.aload_n 0, 1) := by decide +kernel
theorem dX9_worseBy_12 : decode cX9_worseBy 12 = .ok (.iload_n 1, 1) := by decide +kernel
theorem dX9_worseBy_13 : decode cX9_worseBy 13 = .ok (.iload_n 2, 1) := by decide +kernel
theorem dX9_worseBy_14 : decode cX9_worseBy 14 = .ok (.iload_n 3, 1) := by decide +kernel
theorem dX9_worseBy_15 : decode cX9_worseBy 15 = .ok (.iconst 0, 1) := by decide +kernel
theorem dX9_worseBy_16 : decode cX9_worseBy 16 = .ok (.invokevirtual 491, 3) := by decide +kernel
theorem dX9_worseBy_19 : decode cX9_worseBy 19 = .ok (.aload_n 0, 1) := by decide +kernel
theorem dX9_worseBy_20 : decode cX9_worseBy 20 = .ok (.aload_n 0, 1) := by decide +kernel
theorem dX9_worseBy_21 : decode cX9_worseBy 21 = .ok (.getfield 68, 3) := by decide +kernel
theorem dX9_worseBy_24 : decode cX9_worseBy 24 = .ok (.iload 5, 2) := by decide +kernel
theorem dX9_worseBy_26 : decode cX9_worseBy 26 = .ok (.iaload, 1) := by decide +kernel
theorem dX9_worseBy_27 : decode cX9_worseBy 27 = .ok (.iconst 1, 1) := by decide +kernel
theorem dX9_worseBy_28 : decode cX9_worseBy 28 = .ok (.iload 4, 2) := by decide +kernel
theorem dX9_worseBy_30 : decode cX9_worseBy 30 = .ok (.ishl, 1) := by decide +kernel
theorem dX9_worseBy_31 : decode cX9_worseBy 31 = .ok (.ixor, 1) := by decide +kernel
theorem dX9_worseBy_32 : decode cX9_worseBy 32 = .ok (.aload_n 0, 1) := by decide +kernel
theorem dX9_worseBy_33 : decode cX9_worseBy 33 = .ok (.getfield 71, 3) := by decide +kernel
theorem dX9_worseBy_36 : decode cX9_worseBy 36 = .ok (.iload 5, 2) := by decide +kernel
theorem dX9_worseBy_38 : decode cX9_worseBy 38 = .ok (.iaload, 1) := by decide +kernel
theorem dX9_worseBy_39 : decode cX9_worseBy 39 = .ok (.iload_n 2, 1) := by decide +kernel
theorem dX9_worseBy_40 : decode cX9_worseBy 40 = .ok (.iload_n 3, 1) := by decide +kernel
theorem dX9_worseBy_41 : decode cX9_worseBy 41 = .ok (.iconst 0, 1) := by decide +kernel
theorem dX9_worseBy_42 : decode cX9_worseBy 42 = .ok (.aload_n 0, 1) := by decide +kernel
theorem dX9_worseBy_43 : decode cX9_worseBy 43 = .ok (.getfield 80, 3) := by decide +kernel
theorem dX9_worseBy_46 : decode cX9_worseBy 46 = .ok (.iconst 4, 1) := by decide +kernel
theorem dX9_worseBy_47 : decode cX9_worseBy 47 = .ok (.aload_n 0, 1) := by decide +kernel
theorem dX9_worseBy_48 : decode cX9_worseBy 48 = .ok (.getfield 291, 3) := by decide +kernel
theorem dX9_worseBy_51 : decode cX9_worseBy 51 = .ok (.imul, 1) := by decide +kernel
theorem dX9_worseBy_52 : decode cX9_worseBy 52 = .ok (.iload_n 2, 1) := by decide +kernel
theorem dX9_worseBy_53 : decode cX9_worseBy 53 = .ok (.iadd, 1) := by decide +kernel
theorem dX9_worseBy_54 : decode cX9_worseBy 54 = .ok (.iaload, 1) := by decide +kernel
theorem dX9_worseBy_55 : decode cX9_worseBy 55 = .ok (.invokevirtual 481, 3) := by decide +kernel
theorem dX9_worseBy_58 : decode cX9_worseBy 58 = .ok (.isub, 1) := by decide +kernel
theorem dX9_worseBy_59 : decode cX9_worseBy 59 = .ok (.ireturn, 1) := by decide +kernel
theorem dX9_worse_0 : decode cX9_worse 0 = .ok (.aload_n 0, 1) := by decide +kernel
theorem dX9_worse_1 : decode cX9_worse 1 = .ok (.iload_n 1, 1) := by decide +kernel
theorem dX9_worse_2 : decode cX9_worse 2 = .ok (.iload_n 2, 1) := by decide +kernel
theorem dX9_worse_3 : decode cX9_worse 3 = .ok (.iload_n 3, 1) := by decide +kernel
theorem dX9_worse_4 : decode cX9_worse 4 = .ok (.invokevirtual 485, 3) := by decide +kernel
theorem dX9_worse_7 : decode cX9_worse 7 = .ok (.ifCond .eq 40, 3) := by decide +kernel
theorem dX9_worse_10 : decode cX9_worse 10 = .ok (.iload 4, 2) := by decide +kernel
theorem dX9_worse_12 : decode cX9_worse 12 = .ok (.iconst 0, 1) := by decide +kernel
theorem dX9_worse_13 : decode cX9_worse 13 = .ok (.aload_n 0, 1) := by decide +kernel
theorem dX9_worse_14 : decode cX9_worse 14 = .ok (.getfield 71, 3) := by decide +kernel
theorem dX9_worse_17 : decode cX9_worse 17 = .ok (.bipush 6, 2) := by decide +kernel
theorem dX9_worse_19 : decode cX9_worse 19 = .ok (.aload_n 0, 1) := by decide +kernel
theorem dX9_worse_20 : decode cX9_worse 20 = .ok (.getfield 291, 3) := by decide +kernel
theorem dX9_worse_23 : decode cX9_worse 23 = .ok (.imul, 1) := by decide +kernel
theorem dX9_worse_24 : decode cX9_worse 24 = .ok (.iload_n 1, 1) := by decide +kernel
theorem dX9_worse_25 : decode cX9_worse 25 = .ok (.iadd, 1) := by decide +kernel
theorem dX9_worse_26 : decode cX9_worse 26 = .ok (.iaload, 1) := by decide +kernel
theorem dX9_worse_27 : decode cX9_worse 27 = .ok (.iconst 1, 1) := by decide +kernel
theorem dX9_worse_28 : decode cX9_worse 28 = .ok (.isub, 1) := by decide +kernel
theorem dX9_worse_29 : decode cX9_worse 29 = .ok (.invokestatic 389, 3) := by decide +kernel
theorem dX9_worse_32 : decode cX9_worse 32 = .ok (.ifCond .eq 15, 3) := by decide +kernel
theorem dX9_worse_35 : decode cX9_worse 35 = .ok (.aload_n 0, 1) := by decide +kernel
theorem dX9_worse_36 : decode cX9_worse 36 = .ok (.iload_n 1, 1) := by decide +kernel
theorem dX9_worse_37 : decode cX9_worse 37 = .ok (.iload_n 2, 1) := by decide +kernel
theorem dX9_worse_38 : decode cX9_worse 38 = .ok (.iload_n 3, 1) := by decide +kernel
theorem dX9_worse_39 : decode cX9_worse 39 = .ok (.iload 4, 2) := by decide +kernel
theorem dX9_worse_41 : decode cX9_worse 41 = .ok (.invokevirtual 514, 3) := by decide +kernel
theorem dX9_worse_44 : decode cX9_worse 44 = .ok (.goto 6, 3) := by decide +kernel
theorem dX9_worse_50 : decode cX9_worse 50 = .ok (.ireturn, 1) := by decide +kernel
theorem dX9_worse_47 : decode cX9_worse 47 = .ok (.sipush (-10000), 3) := by decide +kernel
theorem dX9_which_0 : decode cX9_which 0 = .ok (.aload_n 0, 1) := by decide +kernel
theorem dX9_which_1 : decode cX9_which 1 = .ok (.iload_n 1, 1) := by decide +kernel
theorem dX9_which_2 : decode cX9_which 2 = .ok (.iload_n 2, 1) := by decide +kernel
theorem dX9_which_3 : decode cX9_which 3 = .ok (.iload_n 3, 1) := by decide +kernel
theorem dX9_which_4 : decode cX9_which 4 = .ok (.invokevirtual 485, 3) := by decide +kernel
theorem dX9_which_7 : decode cX9_which 7 = .ok (.ifCond .ne 5, 3) := by decide +kernel
theorem dX9_which_12 : decode cX9_which 12 = .ok (.iconst 0, 1) := by decide +kernel
theorem dX9_which_13 : decode cX9_which 13 = .ok (.istore 4, 2) := by decide +kernel
theorem dX9_which_15 : decode cX9_which 15 = .ok (.iconst 1, 1) := by decide +kernel
theorem dX9_which_16 : decode cX9_which 16 = .ok (.istore 5, 2) := by decide +kernel
theorem dX9_which_18 : decode cX9_which 18 = .ok (.iload 5, 2) := by decide +kernel
theorem dX9_which_20 : decode cX9_which 20 = .ok (.aload_n 0, 1) := by decide +kernel
theorem dX9_which_21 : decode cX9_which 21 = .ok (.getfield 71, 3) := by decide +kernel
theorem dX9_which_24 : decode cX9_which 24 = .ok (.bipush 6, 2) := by decide +kernel
theorem dX9_which_26 : decode cX9_which 26 = .ok (.aload_n 0, 1) := by decide +kernel
theorem dX9_which_27 : decode cX9_which 27 = .ok (.getfield 291, 3) := by decide +kernel
theorem dX9_which_30 : decode cX9_which 30 = .ok (.imul, 1) := by decide +kernel
theorem dX9_which_31 : decode cX9_which 31 = .ok (.iload_n 1, 1) := by decide +kernel
theorem dX9_which_32 : decode cX9_which 32 = .ok (.iadd, 1) := by decide +kernel
theorem dX9_which_33 : decode cX9_which 33 = .ok (.iaload, 1) := by decide +kernel
theorem dX9_which_34 : decode cX9_which 34 = .ok (.if_icmp .ge 34, 3) := by decide +kernel
theorem dX9_which_68 : decode cX9_which 68 = .ok (.iload 4, 2) := by decide +kernel
theorem dX9_which_70 : decode cX9_which 70 = .ok (.ireturn, 1) := by decide +kernel
theorem dX9_which_37 : decode cX9_which 37 = .ok (.aload_n 0, 1) := by decide +kernel
theorem dX9_which_38 : decode cX9_which 38 = .ok (.iload_n 1, 1) := by decide +kernel
theorem dX9_which_39 : decode cX9_which 39 = .ok (.iload_n 2, 1) := by decide +kernel
theorem dX9_which_40 : decode cX9_which 40 = .ok (.iload_n 3, 1) := by decide +kernel
theorem dX9_which_41 : decode cX9_which 41 = .ok (.iload 5, 2) := by decide +kernel
theorem dX9_which_43 : decode cX9_which 43 = .ok (.invokevirtual 514, 3) := by decide +kernel
theorem dX9_which_46 : decode cX9_which 46 = .ok (.aload_n 0, 1) := by decide +kernel
theorem dX9_which_47 : decode cX9_which 47 = .ok (.iload_n 1, 1) := by decide +kernel
theorem dX9_which_48 : decode cX9_which 48 = .ok (.iload_n 2, 1) := by decide +kernel
theorem dX9_which_49 : decode cX9_which 49 = .ok (.iload_n 3, 1) := by decide +kernel
theorem dX9_which_50 : decode cX9_which 50 = .ok (.iload 4, 2) := by decide +kernel
theorem dX9_which_52 : decode cX9_which 52 = .ok (.invokevirtual 514, 3) := by decide +kernel
theorem dX9_which_55 : decode cX9_which 55 = .ok (.if_icmp .le 7, 3) := by decide +kernel
theorem dX9_which_62 : decode cX9_which 62 = .ok (.iinc 5 1, 3) := by decide +kernel
theorem dX9_which_65 : decode cX9_which 65 = .ok (.goto (-47), 3) := by decide +kernel
theorem dX9_which_58 : decode cX9_which 58 = .ok (.iload 5, 2) := by decide +kernel
theorem dX9_which_60 : decode cX9_which 60 = .ok (.istore 4, 2) := by decide +kernel
theorem dX9_which_10 : decode cX9_which 10 = .ok (.iconst (-1), 1) := by decide +kernel
theorem dX9_which_11 : decode cX9_which 11 = .ok (.ireturn, 1) := by decide +kernel
theorem dX9_best_0 : decode cX9_best 0 = .ok (.iload_n 1, 1) := by decide +kernel
theorem dX9_best_1 : decode cX9_best 1 = .ok (.iconst 1, 1) := by decide +kernel
theorem dX9_best_2 : decode cX9_best 2 = .ok (.bipush 6, 2) := by decide +kernel
theorem dX9_best_4 : decode cX9_best 4 = .ok (.invokestatic 389, 3) := by decide +kernel
theorem dX9_best_7 : decode cX9_best 7 = .ok (.ifCond .eq 41, 3) := by decide +kernel
theorem dX9_best_10 : decode cX9_best 10 = .ok (.aload_n 0, 1) := by decide +kernel
theorem dX9_best_11 : decode cX9_best 11 = .ok (.iload_n 2, 1) := by decide +kernel
theorem dX9_best_12 : decode cX9_best 12 = .ok (.invokevirtual 434, 3) := by decide +kernel
theorem dX9_best_15 : decode cX9_best 15 = .ok (.ifCond .eq 33, 3) := by decide +kernel
theorem dX9_best_18 : decode cX9_best 18 = .ok (.aload_n 0, 1) := by decide +kernel
theorem dX9_best_19 : decode cX9_best 19 = .ok (.iload_n 3, 1) := by decide +kernel
theorem dX9_best_20 : decode cX9_best 20 = .ok (.invokevirtual 455, 3) := by decide +kernel
theorem dX9_best_23 : decode cX9_best 23 = .ok (.ifCond .eq 25, 3) := by decide +kernel
theorem dX9_best_26 : decode cX9_best 26 = .ok (.iload 4, 2) := by decide +kernel
theorem dX9_best_28 : decode cX9_best 28 = .ok (.iconst 0, 1) := by decide +kernel
theorem dX9_best_29 : decode cX9_best 29 = .ok (.sipush 999, 3) := by decide +kernel
theorem dX9_best_32 : decode cX9_best 32 = .ok (.invokestatic 389, 3) := by decide +kernel
theorem dX9_best_35 : decode cX9_best 35 = .ok (.ifCond .eq 13, 3) := by decide +kernel
theorem dX9_best_38 : decode cX9_best 38 = .ok (.iload 5, 2) := by decide +kernel
theorem dX9_best_40 : decode cX9_best 40 = .ok (.iconst 0, 1) := by decide +kernel
theorem dX9_best_41 : decode cX9_best 41 = .ok (.iconst 2, 1) := by decide +kernel
theorem dX9_best_42 : decode cX9_best 42 = .ok (.invokestatic 389, 3) := by decide +kernel
theorem dX9_best_45 : decode cX9_best 45 = .ok (.ifCond .ne 5, 3) := by decide +kernel
theorem dX9_best_50 : decode cX9_best 50 = .ok (.iconst (-1), 1) := by decide +kernel
theorem dX9_best_51 : decode cX9_best 51 = .ok (.istore 6, 2) := by decide +kernel
theorem dX9_best_53 : decode cX9_best 53 = .ok (.iconst 0, 1) := by decide +kernel
theorem dX9_best_54 : decode cX9_best 54 = .ok (.istore 7, 2) := by decide +kernel
theorem dX9_best_56 : decode cX9_best 56 = .ok (.iconst 0, 1) := by decide +kernel
theorem dX9_best_57 : decode cX9_best 57 = .ok (.istore 8, 2) := by decide +kernel
theorem dX9_best_59 : decode cX9_best 59 = .ok (.iload 8, 2) := by decide +kernel
theorem dX9_best_61 : decode cX9_best 61 = .ok (.iconst 1, 1) := by decide +kernel
theorem dX9_best_62 : decode cX9_best 62 = .ok (.iload_n 1, 1) := by decide +kernel
theorem dX9_best_63 : decode cX9_best 63 = .ok (.ishl, 1) := by decide +kernel
theorem dX9_best_64 : decode cX9_best 64 = .ok (.if_icmp .ge 82, 3) := by decide +kernel
theorem dX9_best_146 : decode cX9_best 146 = .ok (.iload 6, 2) := by decide +kernel
theorem dX9_best_148 : decode cX9_best 148 = .ok (.ifCond .lt 8, 3) := by decide +kernel
theorem dX9_best_156 : decode cX9_best 156 = .ok (.iload 6, 2) := by decide +kernel
theorem dX9_best_158 : decode cX9_best 158 = .ok (.goto 22, 3) := by decide +kernel
theorem dX9_best_180 : decode cX9_best 180 = .ok (.ireturn, 1) := by decide +kernel
theorem dX9_best_151 : decode cX9_best 151 = .ok (.iload 5, 2) := by decide +kernel
theorem dX9_best_153 : decode cX9_best 153 = .ok (.ifCond .ne 8, 3) := by decide +kernel
theorem dX9_best_161 : decode cX9_best 161 = .ok (.iload 5, 2) := by decide +kernel
theorem dX9_best_163 : decode cX9_best 163 = .ok (.iconst 1, 1) := by decide +kernel
theorem dX9_best_164 : decode cX9_best 164 = .ok (.if_icmp .ne 8, 3) := by decide +kernel
theorem dX9_best_172 : decode cX9_best 172 = .ok (.aload_n 0, 1) := by decide +kernel
theorem dX9_best_173 : decode cX9_best 173 = .ok (.iload 6, 2) := by decide +kernel
theorem dX9_best_175 : decode cX9_best 175 = .ok (.iload_n 1, 1) := by decide +kernel
theorem dX9_best_176 : decode cX9_best 176 = .ok (.iload_n 2, 1) := by decide +kernel
theorem dX9_best_177 : decode cX9_best 177 = .ok (.invokevirtual 495, 3) := by decide +kernel
theorem dX9_best_167 : decode cX9_best 167 = .ok (.iload 7, 2) := by decide +kernel
theorem dX9_best_169 : decode cX9_best 169 = .ok (.goto 11, 3) := by decide +kernel
theorem dX9_best_67 : decode cX9_best 67 = .ok (.aload_n 0, 1) := by decide +kernel
theorem dX9_best_68 : decode cX9_best 68 = .ok (.iload 8, 2) := by decide +kernel
theorem dX9_best_70 : decode cX9_best 70 = .ok (.iload_n 1, 1) := by decide +kernel
theorem dX9_best_71 : decode cX9_best 71 = .ok (.iload_n 2, 1) := by decide +kernel
theorem dX9_best_72 : decode cX9_best 72 = .ok (.invokevirtual 495, 3) := by decide +kernel
theorem dX9_best_75 : decode cX9_best 75 = .ok (.istore 9, 2) := by decide +kernel
theorem dX9_best_77 : decode cX9_best 77 = .ok (.iload 9, 2) := by decide +kernel
theorem dX9_best_79 : decode cX9_best 79 = .ok (.ifCond .lt 61, 3) := by decide +kernel
theorem dX9_best_140 : decode cX9_best 140 = .ok (.iinc 8 2, 3) := by decide +kernel
theorem dX9_best_143 : decode cX9_best 143 = .ok (.goto (-84), 3) := by decide +kernel
theorem dX9_best_82 : decode cX9_best 82 = .ok (.iload 9, 2) := by decide +kernel
theorem dX9_best_84 : decode cX9_best 84 = .ok (.iload 4, 2) := by decide +kernel
theorem dX9_best_86 : decode cX9_best 86 = .ok (.if_icmp .le 6, 3) := by decide +kernel
theorem dX9_best_92 : decode cX9_best 92 = .ok (.aload_n 0, 1) := by decide +kernel
theorem dX9_best_93 : decode cX9_best 93 = .ok (.iload 8, 2) := by decide +kernel
theorem dX9_best_95 : decode cX9_best 95 = .ok (.iload_n 1, 1) := by decide +kernel
theorem dX9_best_96 : decode cX9_best 96 = .ok (.iload_n 2, 1) := by decide +kernel
theorem dX9_best_97 : decode cX9_best 97 = .ok (.iload_n 3, 1) := by decide +kernel
theorem dX9_best_98 : decode cX9_best 98 = .ok (.iconst 0, 1) := by decide +kernel
theorem dX9_best_99 : decode cX9_best 99 = .ok (.aload_n 0, 1) := by decide +kernel
theorem dX9_best_100 : decode cX9_best 100 = .ok (.getfield 80, 3) := by decide +kernel
theorem dX9_best_103 : decode cX9_best 103 = .ok (.iconst 4, 1) := by decide +kernel
theorem dX9_best_104 : decode cX9_best 104 = .ok (.aload_n 0, 1) := by decide +kernel
theorem dX9_best_105 : decode cX9_best 105 = .ok (.getfield 291, 3) := by decide +kernel
theorem dX9_best_108 : decode cX9_best 108 = .ok (.imul, 1) := by decide +kernel
theorem dX9_best_109 : decode cX9_best 109 = .ok (.iload_n 2, 1) := by decide +kernel
theorem dX9_best_110 : decode cX9_best 110 = .ok (.iadd, 1) := by decide +kernel
theorem dX9_best_111 : decode cX9_best 111 = .ok (.iaload, 1) := by decide +kernel
theorem dX9_best_112 : decode cX9_best 112 = .ok (.invokevirtual 481, 3) := by decide +kernel
theorem dX9_best_115 : decode cX9_best 115 = .ok (.istore 10, 2) := by decide +kernel
theorem dX9_best_117 : decode cX9_best 117 = .ok (.iload 6, 2) := by decide +kernel
theorem dX9_best_119 : decode cX9_best 119 = .ok (.ifCond .lt 13, 3) := by decide +kernel
theorem dX9_best_132 : decode cX9_best 132 = .ok (.iload 8, 2) := by decide +kernel
theorem dX9_best_134 : decode cX9_best 134 = .ok (.istore 6, 2) := by decide +kernel
theorem dX9_best_136 : decode cX9_best 136 = .ok (.iload 10, 2) := by decide +kernel
theorem dX9_best_138 : decode cX9_best 138 = .ok (.istore 7, 2) := by decide +kernel
theorem dX9_best_122 : decode cX9_best 122 = .ok (.iload 10, 2) := by decide +kernel
theorem dX9_best_124 : decode cX9_best 124 = .ok (.iload 7, 2) := by decide +kernel
theorem dX9_best_126 : decode cX9_best 126 = .ok (.if_icmp .gt 6, 3) := by decide +kernel
theorem dX9_best_129 : decode cX9_best 129 = .ok (.goto 11, 3) := by decide +kernel
theorem dX9_best_89 : decode cX9_best 89 = .ok (.goto 51, 3) := by decide +kernel
theorem dX9_best_48 : decode cX9_best 48 = .ok (.iconst (-1), 1) := by decide +kernel
theorem dX9_best_49 : decode cX9_best 49 = .ok (.ireturn, 1) := by decide +kernel
theorem dX9_both_0 : decode cX9_both 0 = .ok (.aload_n 0, 1) := by decide +kernel
theorem dX9_both_1 : decode cX9_both 1 = .ok (.iload_n 1, 1) := by decide +kernel
theorem dX9_both_2 : decode cX9_both 2 = .ok (.invokevirtual 434, 3) := by decide +kernel
theorem dX9_both_5 : decode cX9_both 5 = .ok (.ifCond .eq 11, 3) := by decide +kernel
theorem dX9_both_8 : decode cX9_both 8 = .ok (.aload_n 0, 1) := by decide +kernel
theorem dX9_both_9 : decode cX9_both 9 = .ok (.iload_n 2, 1) := by decide +kernel
theorem dX9_both_10 : decode cX9_both 10 = .ok (.invokevirtual 455, 3) := by decide +kernel
theorem dX9_both_13 : decode cX9_both 13 = .ok (.ifCond .ne 5, 3) := by decide +kernel
theorem dX9_both_18 : decode cX9_both 18 = .ok (.iconst 0, 1) := by decide +kernel
theorem dX9_both_19 : decode cX9_both 19 = .ok (.istore_n 3, 1) := by decide +kernel
theorem dX9_both_20 : decode cX9_both 20 = .ok (.iload_n 3, 1) := by decide +kernel
theorem dX9_both_21 : decode cX9_both 21 = .ok (.aload_n 0, 1) := by decide +kernel
theorem dX9_both_22 : decode cX9_both 22 = .ok (.getfield 20, 3) := by decide +kernel
theorem dX9_both_25 : decode cX9_both 25 = .ok (.aload_n 0, 1) := by decide +kernel
theorem dX9_both_26 : decode cX9_both 26 = .ok (.getfield 291, 3) := by decide +kernel
theorem dX9_both_29 : decode cX9_both 29 = .ok (.iaload, 1) := by decide +kernel
theorem dX9_both_30 : decode cX9_both 30 = .ok (.if_icmp .ge 53, 3) := by decide +kernel
theorem dX9_both_83 : decode cX9_both 83 = .ok (.iconst 0, 1) := by decide +kernel
theorem dX9_both_84 : decode cX9_both 84 = .ok (.istore_n 3, 1) := by decide +kernel
theorem dX9_both_85 : decode cX9_both 85 = .ok (.iconst 0, 1) := by decide +kernel
theorem dX9_both_86 : decode cX9_both 86 = .ok (.istore 4, 2) := by decide +kernel
theorem dX9_both_88 : decode cX9_both 88 = .ok (.iload 4, 2) := by decide +kernel
theorem dX9_both_90 : decode cX9_both 90 = .ok (.aload_n 0, 1) := by decide +kernel
theorem dX9_both_91 : decode cX9_both 91 = .ok (.getfield 20, 3) := by decide +kernel
theorem dX9_both_94 : decode cX9_both 94 = .ok (.aload_n 0, 1) := by decide +kernel
theorem dX9_both_95 : decode cX9_both 95 = .ok (.getfield 291, 3) := by decide +kernel
theorem dX9_both_98 : decode cX9_both 98 = .ok (.iaload, 1) := by decide +kernel
theorem dX9_both_99 : decode cX9_both 99 = .ok (.if_icmp .ge 131, 3) := by decide +kernel
theorem dX9_both_230 : decode cX9_both 230 = .ok (.iload_n 3, 1) := by decide +kernel
theorem dX9_both_231 : decode cX9_both 231 = .ok (.ireturn, 1) := by decide +kernel
theorem dX9_both_102 : decode cX9_both 102 = .ok (.iconst 1, 1) := by decide +kernel
theorem dX9_both_103 : decode cX9_both 103 = .ok (.istore 5, 2) := by decide +kernel
theorem dX9_both_105 : decode cX9_both 105 = .ok (.iconst 0, 1) := by decide +kernel
theorem dX9_both_106 : decode cX9_both 106 = .ok (.istore 6, 2) := by decide +kernel
theorem dX9_both_108 : decode cX9_both 108 = .ok (.iload 6, 2) := by decide +kernel
theorem dX9_both_110 : decode cX9_both 110 = .ok (.aload_n 0, 1) := by decide +kernel
theorem dX9_both_111 : decode cX9_both 111 = .ok (.getfield 20, 3) := by decide +kernel
theorem dX9_both_114 : decode cX9_both 114 = .ok (.aload_n 0, 1) := by decide +kernel
theorem dX9_both_115 : decode cX9_both 115 = .ok (.getfield 291, 3) := by decide +kernel
theorem dX9_both_118 : decode cX9_both 118 = .ok (.iaload, 1) := by decide +kernel
theorem dX9_both_119 : decode cX9_both 119 = .ok (.if_icmp .ge 89, 3) := by decide +kernel
theorem dX9_both_208 : decode cX9_both 208 = .ok (.iload_n 3, 1) := by decide +kernel
theorem dX9_both_209 : decode cX9_both 209 = .ok (.iload 5, 2) := by decide +kernel
theorem dX9_both_211 : decode cX9_both 211 = .ok (.ifCond .eq 10, 3) := by decide +kernel
theorem dX9_both_221 : decode cX9_both 221 = .ok (.iconst 0, 1) := by decide +kernel
theorem dX9_both_222 : decode cX9_both 222 = .ok (.ior, 1) := by decide +kernel
theorem dX9_both_223 : decode cX9_both 223 = .ok (.istore_n 3, 1) := by decide +kernel
theorem dX9_both_224 : decode cX9_both 224 = .ok (.iinc 4 1, 3) := by decide +kernel
theorem dX9_both_227 : decode cX9_both 227 = .ok (.goto (-139), 3) := by decide +kernel
theorem dX9_both_214 : decode cX9_both 214 = .ok (.iconst 1, 1) := by decide +kernel
theorem dX9_both_215 : decode cX9_both 215 = .ok (.iload 4, 2) := by decide +kernel
theorem dX9_both_217 : decode cX9_both 217 = .ok (.ishl, 1) := by decide +kernel
theorem dX9_both_218 : decode cX9_both 218 = .ok (.goto 4, 3) := by decide +kernel
theorem dX9_both_122 : decode cX9_both 122 = .ok (.iload 5, 2) := by decide +kernel
theorem dX9_both_124 : decode cX9_both 124 = .ok (.ifCond .eq 75, 3) := by decide +kernel
theorem dX9_both_199 : decode cX9_both 199 = .ok (.iconst 0, 1) := by decide +kernel
theorem dX9_both_200 : decode cX9_both 200 = .ok (.istore 5, 2) := by decide +kernel
theorem dX9_both_202 : decode cX9_both 202 = .ok (.iinc 6 1, 3) := by decide +kernel
theorem dX9_both_205 : decode cX9_both 205 = .ok (.goto (-97), 3) := by decide +kernel
theorem dX9_both_127 : decode cX9_both 127 = .ok (.aload_n 0, 1) := by decide +kernel
theorem dX9_both_128 : decode cX9_both 128 = .ok (.getfield 128, 3) := by decide +kernel
theorem dX9_both_131 : decode cX9_both 131 = .ok (.iload 6, 2) := by decide +kernel
theorem dX9_both_133 : decode cX9_both 133 = .ok (.iaload, 1) := by decide +kernel
theorem dX9_both_134 : decode cX9_both 134 = .ok (.aload_n 0, 1) := by decide +kernel
theorem dX9_both_135 : decode cX9_both 135 = .ok (.getfield 128, 3) := by decide +kernel
theorem dX9_both_138 : decode cX9_both 138 = .ok (.iload 4, 2) := by decide +kernel
theorem dX9_both_140 : decode cX9_both 140 = .ok (.iaload, 1) := by decide +kernel
theorem dX9_both_141 : decode cX9_both 141 = .ok (.if_icmp .lt 54, 3) := by decide +kernel
theorem dX9_both_195 : decode cX9_both 195 = .ok (.iconst 1, 1) := by decide +kernel
theorem dX9_both_196 : decode cX9_both 196 = .ok (.goto 4, 3) := by decide +kernel
theorem dX9_both_144 : decode cX9_both 144 = .ok (.aload_n 0, 1) := by decide +kernel
theorem dX9_both_145 : decode cX9_both 145 = .ok (.getfield 131, 3) := by decide +kernel
theorem dX9_both_148 : decode cX9_both 148 = .ok (.iload 6, 2) := by decide +kernel
theorem dX9_both_150 : decode cX9_both 150 = .ok (.iaload, 1) := by decide +kernel
theorem dX9_both_151 : decode cX9_both 151 = .ok (.aload_n 0, 1) := by decide +kernel
theorem dX9_both_152 : decode cX9_both 152 = .ok (.getfield 131, 3) := by decide +kernel
theorem dX9_both_155 : decode cX9_both 155 = .ok (.iload 4, 2) := by decide +kernel
theorem dX9_both_157 : decode cX9_both 157 = .ok (.iaload, 1) := by decide +kernel
theorem dX9_both_158 : decode cX9_both 158 = .ok (.if_icmp .gt 37, 3) := by decide +kernel
theorem dX9_both_161 : decode cX9_both 161 = .ok (.aload_n 0, 1) := by decide +kernel
theorem dX9_both_162 : decode cX9_both 162 = .ok (.getfield 128, 3) := by decide +kernel
theorem dX9_both_165 : decode cX9_both 165 = .ok (.iload 6, 2) := by decide +kernel
theorem dX9_both_167 : decode cX9_both 167 = .ok (.iaload, 1) := by decide +kernel
theorem dX9_both_168 : decode cX9_both 168 = .ok (.aload_n 0, 1) := by decide +kernel
theorem dX9_both_169 : decode cX9_both 169 = .ok (.getfield 128, 3) := by decide +kernel
theorem dX9_both_172 : decode cX9_both 172 = .ok (.iload 4, 2) := by decide +kernel
theorem dX9_both_174 : decode cX9_both 174 = .ok (.iaload, 1) := by decide +kernel
theorem dX9_both_175 : decode cX9_both 175 = .ok (.if_icmp .gt 24, 3) := by decide +kernel
theorem dX9_both_178 : decode cX9_both 178 = .ok (.aload_n 0, 1) := by decide +kernel
theorem dX9_both_179 : decode cX9_both 179 = .ok (.getfield 131, 3) := by decide +kernel
theorem dX9_both_182 : decode cX9_both 182 = .ok (.iload 6, 2) := by decide +kernel
theorem dX9_both_184 : decode cX9_both 184 = .ok (.iaload, 1) := by decide +kernel
theorem dX9_both_185 : decode cX9_both 185 = .ok (.aload_n 0, 1) := by decide +kernel
theorem dX9_both_186 : decode cX9_both 186 = .ok (.getfield 131, 3) := by decide +kernel
theorem dX9_both_189 : decode cX9_both 189 = .ok (.iload 4, 2) := by decide +kernel
theorem dX9_both_191 : decode cX9_both 191 = .ok (.iaload, 1) := by decide +kernel
theorem dX9_both_192 : decode cX9_both 192 = .ok (.if_icmp .lt 7, 3) := by decide +kernel
theorem dX9_both_33 : decode cX9_both 33 = .ok (.aload_n 0, 1) := by decide +kernel
theorem dX9_both_34 : decode cX9_both 34 = .ok (.getfield 128, 3) := by decide +kernel
theorem dX9_both_37 : decode cX9_both 37 = .ok (.iload_n 3, 1) := by decide +kernel
theorem dX9_both_38 : decode cX9_both 38 = .ok (.aload_n 0, 1) := by decide +kernel
theorem dX9_both_39 : decode cX9_both 39 = .ok (.iload_n 3, 1) := by decide +kernel
theorem dX9_both_40 : decode cX9_both 40 = .ok (.iload_n 1, 1) := by decide +kernel
theorem dX9_both_41 : decode cX9_both 41 = .ok (.iload_n 2, 1) := by decide +kernel
theorem dX9_both_42 : decode cX9_both 42 = .ok (.iconst 0, 1) := by decide +kernel
theorem dX9_both_43 : decode cX9_both 43 = .ok (.invokevirtual 491, 3) := by decide +kernel
theorem dX9_both_46 : decode cX9_both 46 = .ok (.iastore, 1) := by decide +kernel
theorem dX9_both_47 : decode cX9_both 47 = .ok (.aload_n 0, 1) := by decide +kernel
theorem dX9_both_48 : decode cX9_both 48 = .ok (.getfield 131, 3) := by decide +kernel
theorem dX9_both_51 : decode cX9_both 51 = .ok (.iload_n 3, 1) := by decide +kernel
theorem dX9_both_52 : decode cX9_both 52 = .ok (.aload_n 0, 1) := by decide +kernel
theorem dX9_both_53 : decode cX9_both 53 = .ok (.iload_n 3, 1) := by decide +kernel
theorem dX9_both_54 : decode cX9_both 54 = .ok (.iload_n 1, 1) := by decide +kernel
theorem dX9_both_55 : decode cX9_both 55 = .ok (.invokevirtual 498, 3) := by decide +kernel
theorem dX9_both_58 : decode cX9_both 58 = .ok (.iastore, 1) := by decide +kernel
theorem dX9_both_59 : decode cX9_both 59 = .ok (.aload_n 0, 1) := by decide +kernel
theorem dX9_both_60 : decode cX9_both 60 = .ok (.getfield 131, 3) := by decide +kernel
theorem dX9_both_63 : decode cX9_both 63 = .ok (.iload_n 3, 1) := by decide +kernel
theorem dX9_both_64 : decode cX9_both 64 = .ok (.iaload, 1) := by decide +kernel
theorem dX9_both_65 : decode cX9_both 65 = .ok (.ifCond .ge 12, 3) := by decide +kernel
theorem dX9_both_77 : decode cX9_both 77 = .ok (.iinc 3 1, 3) := by decide +kernel
theorem dX9_both_80 : decode cX9_both 80 = .ok (.goto (-60), 3) := by decide +kernel
theorem dX9_both_68 : decode cX9_both 68 = .ok (.aload_n 0, 1) := by decide +kernel
theorem dX9_both_69 : decode cX9_both 69 = .ok (.getfield 131, 3) := by decide +kernel
theorem dX9_both_72 : decode cX9_both 72 = .ok (.iload_n 3, 1) := by decide +kernel
theorem dX9_both_73 : decode cX9_both 73 = .ok (.sipush 1000, 3) := by decide +kernel
theorem dX9_both_76 : decode cX9_both 76 = .ok (.iastore, 1) := by decide +kernel
theorem dX9_both_16 : decode cX9_both 16 = .ok (.iconst (-1), 1) := by decide +kernel
theorem dX9_both_17 : decode cX9_both 17 = .ok (.ireturn, 1) := by decide +kernel
theorem dX9_ends_0 : decode cX9_ends 0 = .ok (.aload_n 0, 1) := by decide +kernel
theorem dX9_ends_1 : decode cX9_ends 1 = .ok (.iload_n 1, 1) := by decide +kernel
theorem dX9_ends_2 : decode cX9_ends 2 = .ok (.iload_n 2, 1) := by decide +kernel
theorem dX9_ends_3 : decode cX9_ends 3 = .ok (.iload_n 3, 1) := by decide +kernel
theorem dX9_ends_4 : decode cX9_ends 4 = .ok (.invokevirtual 485, 3) := by decide +kernel
theorem dX9_ends_7 : decode cX9_ends 7 = .ok (.ifCond .eq 15, 3) := by decide +kernel
theorem dX9_ends_10 : decode cX9_ends 10 = .ok (.iload 4, 2) := by decide +kernel
theorem dX9_ends_12 : decode cX9_ends 12 = .ok (.iconst 1, 1) := by decide +kernel
theorem dX9_ends_13 : decode cX9_ends 13 = .ok (.sipush 2000, 3) := by decide +kernel
theorem dX9_ends_16 : decode cX9_ends 16 = .ok (.invokestatic 389, 3) := by decide +kernel
theorem dX9_ends_19 : decode cX9_ends 19 = .ok (.ifCond .ne 5, 3) := by decide +kernel
theorem dX9_ends_24 : decode cX9_ends 24 = .ok (.bipush 10, 2) := by decide +kernel
theorem dX9_ends_26 : decode cX9_ends 26 = .ok (.istore 5, 2) := by decide +kernel
theorem dX9_ends_28 : decode cX9_ends 28 = .ok (.iload 5, 2) := by decide +kernel
theorem dX9_ends_30 : decode cX9_ends 30 = .ok (.sipush 990, 3) := by decide +kernel
theorem dX9_ends_33 : decode cX9_ends 33 = .ok (.if_icmp .gt 54, 3) := by decide +kernel
theorem dX9_ends_87 : decode cX9_ends 87 = .ok (.iconst (-1), 1) := by decide +kernel
theorem dX9_ends_88 : decode cX9_ends 88 = .ok (.ireturn, 1) := by decide +kernel
theorem dX9_ends_36 : decode cX9_ends 36 = .ok (.aload_n 0, 1) := by decide +kernel
theorem dX9_ends_37 : decode cX9_ends 37 = .ok (.aload_n 0, 1) := by decide +kernel
theorem dX9_ends_38 : decode cX9_ends 38 = .ok (.getfield 68, 3) := by decide +kernel
theorem dX9_ends_41 : decode cX9_ends 41 = .ok (.bipush 6, 2) := by decide +kernel
theorem dX9_ends_43 : decode cX9_ends 43 = .ok (.aload_n 0, 1) := by decide +kernel
theorem dX9_ends_44 : decode cX9_ends 44 = .ok (.getfield 291, 3) := by decide +kernel
theorem dX9_ends_47 : decode cX9_ends 47 = .ok (.imul, 1) := by decide +kernel
theorem dX9_ends_48 : decode cX9_ends 48 = .ok (.iload_n 1, 1) := by decide +kernel
theorem dX9_ends_49 : decode cX9_ends 49 = .ok (.iadd, 1) := by decide +kernel
theorem dX9_ends_50 : decode cX9_ends 50 = .ok (.iaload, 1) := by decide +kernel
theorem dX9_ends_51 : decode cX9_ends 51 = .ok (.aload_n 0, 1) := by decide +kernel
theorem dX9_ends_52 : decode cX9_ends 52 = .ok (.getfield 71, 3) := by decide +kernel
theorem dX9_ends_55 : decode cX9_ends 55 = .ok (.bipush 6, 2) := by decide +kernel
theorem dX9_ends_57 : decode cX9_ends 57 = .ok (.aload_n 0, 1) := by decide +kernel
theorem dX9_ends_58 : decode cX9_ends 58 = .ok (.getfield 291, 3) := by decide +kernel
theorem dX9_ends_61 : decode cX9_ends 61 = .ok (.imul, 1) := by decide +kernel
theorem dX9_ends_62 : decode cX9_ends 62 = .ok (.iload_n 1, 1) := by decide +kernel
theorem dX9_ends_63 : decode cX9_ends 63 = .ok (.iadd, 1) := by decide +kernel
theorem dX9_ends_64 : decode cX9_ends 64 = .ok (.iaload, 1) := by decide +kernel
theorem dX9_ends_65 : decode cX9_ends 65 = .ok (.iload_n 2, 1) := by decide +kernel
theorem dX9_ends_66 : decode cX9_ends 66 = .ok (.iload_n 3, 1) := by decide +kernel
theorem dX9_ends_67 : decode cX9_ends 67 = .ok (.iconst 0, 1) := by decide +kernel
theorem dX9_ends_68 : decode cX9_ends 68 = .ok (.iload 5, 2) := by decide +kernel
theorem dX9_ends_70 : decode cX9_ends 70 = .ok (.invokevirtual 481, 3) := by decide +kernel
theorem dX9_ends_73 : decode cX9_ends 73 = .ok (.iload 4, 2) := by decide +kernel
theorem dX9_ends_75 : decode cX9_ends 75 = .ok (.if_icmp .ge 6, 3) := by decide +kernel
theorem dX9_ends_81 : decode cX9_ends 81 = .ok (.iinc 5 10, 3) := by decide +kernel
theorem dX9_ends_84 : decode cX9_ends 84 = .ok (.goto (-56), 3) := by decide +kernel
theorem dX9_ends_78 : decode cX9_ends 78 = .ok (.iload 5, 2) := by decide +kernel
theorem dX9_ends_80 : decode cX9_ends 80 = .ok (.ireturn, 1) := by decide +kernel
theorem dX9_ends_22 : decode cX9_ends 22 = .ok (.iconst (-1), 1) := by decide +kernel
theorem dX9_ends_23 : decode cX9_ends 23 = .ok (.ireturn, 1) := by decide +kernel
theorem dX9_change_0 : decode cX9_change 0 = .ok (.aload_n 0, 1) := by decide +kernel
theorem dX9_change_1 : decode cX9_change 1 = .ok (.iload_n 1, 1) := by decide +kernel
theorem dX9_change_2 : decode cX9_change 2 = .ok (.iload_n 2, 1) := by decide +kernel
theorem dX9_change_3 : decode cX9_change 3 = .ok (.iload_n 3, 1) := by decide +kernel
theorem dX9_change_4 : decode cX9_change 4 = .ok (.invokevirtual 485, 3) := by decide +kernel
theorem dX9_change_7 : decode cX9_change 7 = .ok (.ifCond .eq 25, 3) := by decide +kernel
theorem dX9_change_10 : decode cX9_change 10 = .ok (.iload 4, 2) := by decide +kernel
theorem dX9_change_12 : decode cX9_change 12 = .ok (.iconst 1, 1) := by decide +kernel
theorem dX9_change_13 : decode cX9_change 13 = .ok (.sipush 2000, 3) := by decide +kernel
theorem dX9_change_16 : decode cX9_change 16 = .ok (.invokestatic 389, 3) := by decide +kernel
theorem dX9_change_19 : decode cX9_change 19 = .ok (.ifCond .eq 13, 3) := by decide +kernel
theorem dX9_change_22 : decode cX9_change 22 = .ok (.iload 5, 2) := by decide +kernel
theorem dX9_change_24 : decode cX9_change 24 = .ok (.iconst 0, 1) := by decide +kernel
theorem dX9_change_25 : decode cX9_change 25 = .ok (.iconst 1, 1) := by decide +kernel
theorem dX9_change_26 : decode cX9_change 26 = .ok (.invokestatic 389, 3) := by decide +kernel
theorem dX9_change_29 : decode cX9_change 29 = .ok (.ifCond .ne 5, 3) := by decide +kernel
theorem dX9_change_34 : decode cX9_change 34 = .ok (.iconst (-1), 1) := by decide +kernel
theorem dX9_change_35 : decode cX9_change 35 = .ok (.istore 6, 2) := by decide +kernel
theorem dX9_change_37 : decode cX9_change 37 = .ok (.iconst 0, 1) := by decide +kernel
theorem dX9_change_38 : decode cX9_change 38 = .ok (.istore 7, 2) := by decide +kernel
theorem dX9_change_40 : decode cX9_change 40 = .ok (.iload 7, 2) := by decide +kernel
theorem dX9_change_42 : decode cX9_change 42 = .ok (.bipush 99, 2) := by decide +kernel
theorem dX9_change_44 : decode cX9_change 44 = .ok (.if_icmp .gt 62, 3) := by decide +kernel
theorem dX9_change_106 : decode cX9_change 106 = .ok (.aload_n 0, 1) := by decide +kernel
theorem dX9_change_107 : decode cX9_change 107 = .ok (.iconst 0, 1) := by decide +kernel
theorem dX9_change_108 : decode cX9_change 108 = .ok (.putfield 424, 3) := by decide +kernel
theorem dX9_change_111 : decode cX9_change 111 = .ok (.aload_n 0, 1) := by decide +kernel
theorem dX9_change_112 : decode cX9_change 112 = .ok (.iconst 0, 1) := by decide +kernel
theorem dX9_change_113 : decode cX9_change 113 = .ok (.putfield 421, 3) := by decide +kernel
theorem dX9_change_116 : decode cX9_change 116 = .ok (.iload 6, 2) := by decide +kernel
theorem dX9_change_118 : decode cX9_change 118 = .ok (.ireturn, 1) := by decide +kernel
theorem dX9_change_47 : decode cX9_change 47 = .ok (.iload 6, 2) := by decide +kernel
theorem dX9_change_49 : decode cX9_change 49 = .ok (.ifCond .ge 57, 3) := by decide +kernel
theorem dX9_change_52 : decode cX9_change 52 = .ok (.aload_n 0, 1) := by decide +kernel
theorem dX9_change_53 : decode cX9_change 53 = .ok (.iload 5, 2) := by decide +kernel
theorem dX9_change_55 : decode cX9_change 55 = .ok (.ifCond .ne 8, 3) := by decide +kernel
theorem dX9_change_63 : decode cX9_change 63 = .ok (.iconst 0, 1) := by decide +kernel
theorem dX9_change_64 : decode cX9_change 64 = .ok (.putfield 424, 3) := by decide +kernel
theorem dX9_change_67 : decode cX9_change 67 = .ok (.aload_n 0, 1) := by decide +kernel
theorem dX9_change_68 : decode cX9_change 68 = .ok (.iload 5, 2) := by decide +kernel
theorem dX9_change_70 : decode cX9_change 70 = .ok (.iconst 1, 1) := by decide +kernel
theorem dX9_change_71 : decode cX9_change 71 = .ok (.if_icmp .ne 8, 3) := by decide +kernel
theorem dX9_change_79 : decode cX9_change 79 = .ok (.iconst 0, 1) := by decide +kernel
theorem dX9_change_80 : decode cX9_change 80 = .ok (.putfield 421, 3) := by decide +kernel
theorem dX9_change_83 : decode cX9_change 83 = .ok (.aload_n 0, 1) := by decide +kernel
theorem dX9_change_84 : decode cX9_change 84 = .ok (.iload_n 1, 1) := by decide +kernel
theorem dX9_change_85 : decode cX9_change 85 = .ok (.iload_n 2, 1) := by decide +kernel
theorem dX9_change_86 : decode cX9_change 86 = .ok (.iload_n 3, 1) := by decide +kernel
theorem dX9_change_87 : decode cX9_change 87 = .ok (.iconst 0, 1) := by decide +kernel
theorem dX9_change_88 : decode cX9_change 88 = .ok (.invokevirtual 491, 3) := by decide +kernel
theorem dX9_change_91 : decode cX9_change 91 = .ok (.iload 4, 2) := by decide +kernel
theorem dX9_change_93 : decode cX9_change 93 = .ok (.if_icmp .lt 7, 3) := by decide +kernel
theorem dX9_change_100 : decode cX9_change 100 = .ok (.iinc 7 1, 3) := by decide +kernel
theorem dX9_change_103 : decode cX9_change 103 = .ok (.goto (-63), 3) := by decide +kernel
theorem dX9_change_96 : decode cX9_change 96 = .ok (.iload 7, 2) := by decide +kernel
theorem dX9_change_98 : decode cX9_change 98 = .ok (.istore 6, 2) := by decide +kernel
theorem dX9_change_74 : decode cX9_change 74 = .ok (.iload 7, 2) := by decide +kernel
theorem dX9_change_76 : decode cX9_change 76 = .ok (.goto 4, 3) := by decide +kernel
theorem dX9_change_58 : decode cX9_change 58 = .ok (.iload 7, 2) := by decide +kernel
theorem dX9_change_60 : decode cX9_change 60 = .ok (.goto 4, 3) := by decide +kernel
theorem dX9_change_32 : decode cX9_change 32 = .ok (.iconst (-1), 1) := by decide +kernel
theorem dX9_change_33 : decode cX9_change 33 = .ok (.ireturn, 1) := by decide +kernel
