theorem dX9_readLaw_0 : decode cX9_readLaw 0 = .ok (.iconst 3, 1) := by decide +kernel
theorem dX9_readLaw_1 : decode cX9_readLaw 1 = .ok (.aload_n 0, 1) := by decide +kernel
theorem dX9_readLaw_2 : decode cX9_readLaw 2 = .ok (.getfield 279, 3) := by decide +kernel
theorem dX9_readLaw_5 : decode cX9_readLaw 5 = .ok (.imul, 1) := by decide +kernel
theorem dX9_readLaw_6 : decode cX9_readLaw 6 = .ok (.aload_n 0, 1) := by decide +kernel
theorem dX9_readLaw_7 : decode cX9_readLaw 7 = .ok (.getfield 30, 3) := by decide +kernel
theorem dX9_readLaw_10 : decode cX9_readLaw 10 = .ok (.aload_n 0, 1) := by decide +kernel
theorem dX9_readLaw_11 : decode cX9_readLaw 11 = .ok (.getfield 279, 3) := by decide +kernel
theorem dX9_readLaw_14 : decode cX9_readLaw 14 = .ok (.iaload, 1) := by decide +kernel
theorem dX9_readLaw_15 : decode cX9_readLaw 15 = .ok (.iadd, 1) := by decide +kernel
theorem dX9_readLaw_16 : decode cX9_readLaw 16 = .ok (.istore_n 1, 1) := by decide +kernel
theorem dX9_readLaw_17 : decode cX9_readLaw 17 = .ok (.aload_n 0, 1) := by decide +kernel
theorem dX9_readLaw_18 : decode cX9_readLaw 18 = .ok (.getfield 62, 3) := by decide +kernel
theorem dX9_readLaw_21 : decode cX9_readLaw 21 = .ok (.iload_n 1, 1) := by decide +kernel
theorem dX9_readLaw_22 : decode cX9_readLaw 22 = .ok (.aload_n 0, 1) := by decide +kernel
theorem dX9_readLaw_23 : decode cX9_readLaw 23 = .ok (.aload_n 0, 1) := by decide +kernel
theorem dX9_readLaw_24 : decode cX9_readLaw 24 = .ok (.getfield 62, 3) := by decide +kernel
theorem dX9_readLaw_27 : decode cX9_readLaw 27 = .ok (.iconst 3, 1) := by decide +kernel
theorem dX9_readLaw_28 : decode cX9_readLaw 28 = .ok (.aload_n 0, 1) := by decide +kernel
theorem dX9_readLaw_29 : decode cX9_readLaw 29 = .ok (.getfield 279, 3) := by decide +kernel
theorem dX9_readLaw_32 : decode cX9_readLaw 32 = .ok (.imul, 1) := by decide +kernel
theorem dX9_readLaw_33 : decode cX9_readLaw 33 = .ok (.aload_n 0, 1) := by decide +kernel
theorem dX9_readLaw_34 : decode cX9_readLaw 34 = .ok (.getfield 30, 3) := by decide +kernel
theorem dX9_readLaw_37 : decode cX9_readLaw 37 = .ok (.aload_n 0, 1) := by decide +kernel
theorem dX9_readLaw_38 : decode cX9_readLaw 38 = .ok (.getfield 279, 3) := by decide +kernel
theorem dX9_readLaw_41 : decode cX9_readLaw 41 = .ok (.iaload, 1) := by decide +kernel
theorem dX9_readLaw_42 : decode cX9_readLaw 42 = .ok (.invokevirtual 325, 3) := by decide +kernel
theorem dX9_readLaw_45 : decode cX9_readLaw 45 = .ok (.lastore, 1) := by decide +kernel
theorem dX9_readLaw_46 : decode cX9_readLaw 46 = .ok (.aload_n 0, 1) := by decide +kernel
theorem dX9_readLaw_47 : decode cX9_readLaw 47 = .ok (.aload_n 0, 1) := by decide +kernel
theorem dX9_readLaw_48 : decode cX9_readLaw 48 = .ok (.ldc2_w 198, 3) := by decide +kernel
theorem dX9_readLaw_51 : decode cX9_readLaw 51 = .ok (.invokevirtual 268, 3) := by decide +kernel
theorem dX9_readLaw_54 : decode cX9_readLaw 54 = .ok (.invokevirtual 271, 3) := by decide +kernel
theorem dX9_readLaw_57 : decode cX9_readLaw 57 = .ok (.aload_n 0, 1) := by decide +kernel
theorem dX9_readLaw_58 : decode cX9_readLaw 58 = .ok (.getfield 98, 3) := by decide +kernel
theorem dX9_readLaw_61 : decode cX9_readLaw 61 = .ok (.iconst 2, 1) := by decide +kernel
theorem dX9_readLaw_62 : decode cX9_readLaw 62 = .ok (.iload_n 1, 1) := by decide +kernel
theorem dX9_readLaw_63 : decode cX9_readLaw 63 = .ok (.imul, 1) := by decide +kernel
theorem dX9_readLaw_64 : decode cX9_readLaw 64 = .ok (.aload_n 0, 1) := by decide +kernel
theorem dX9_readLaw_65 : decode cX9_readLaw 65 = .ok (.getfield 282, 3) := by decide +kernel
theorem dX9_readLaw_68 : decode cX9_readLaw 68 = .ok (.iastore, 1) := by decide +kernel
theorem dX9_readLaw_69 : decode cX9_readLaw 69 = .ok (.aload_n 0, 1) := by decide +kernel
theorem dX9_readLaw_70 : decode cX9_readLaw 70 = .ok (.invokevirtual 258, 3) := by decide +kernel
theorem dX9_readLaw_73 : decode cX9_readLaw 73 = .ok (.ifCond .eq 7, 3) := by decide +kernel
theorem dX9_readLaw_76 : decode cX9_readLaw 76 = .ok (.aload_n 0, 1) := by decide +kernel
theorem dX9_readLaw_77 : decode cX9_readLaw 77 = .ok (.invokevirtual 336, 3) := by decide +kernel
theorem dX9_readLaw_80 : decode cX9_readLaw 80 = .ok (.aload_n 0, 1) := by decide +kernel
theorem dX9_readLaw_81 : decode cX9_readLaw 81 = .ok (.getfield 101, 3) := by decide +kernel
theorem dX9_readLaw_84 : decode cX9_readLaw 84 = .ok (.iconst 2, 1) := by decide +kernel
theorem dX9_readLaw_85 : decode cX9_readLaw 85 = .ok (.iload_n 1, 1) := by decide +kernel
theorem dX9_readLaw_86 : decode cX9_readLaw 86 = .ok (.imul, 1) := by decide +kernel
theorem dX9_readLaw_87 : decode cX9_readLaw 87 = .ok (.aload_n 0, 1) := by decide +kernel
theorem dX9_readLaw_88 : decode cX9_readLaw 88 = .ok (.getfield 282, 3) := by decide +kernel
theorem dX9_readLaw_91 : decode cX9_readLaw 91 = .ok (.iastore, 1) := by decide +kernel
theorem dX9_readLaw_92 : decode cX9_readLaw 92 = .ok (.aload_n 0, 1) := by decide +kernel
theorem dX9_readLaw_93 : decode cX9_readLaw 93 = .ok (.aload_n 0, 1) := by decide +kernel
theorem dX9_readLaw_94 : decode cX9_readLaw 94 = .ok (.ldc2_w 200, 3) := by decide +kernel
theorem dX9_readLaw_97 : decode cX9_readLaw 97 = .ok (.invokevirtual 268, 3) := by decide +kernel
theorem dX9_readLaw_100 : decode cX9_readLaw 100 = .ok (.invokevirtual 271, 3) := by decide +kernel
theorem dX9_readLaw_103 : decode cX9_readLaw 103 = .ok (.aload_n 0, 1) := by decide +kernel
theorem dX9_readLaw_104 : decode cX9_readLaw 104 = .ok (.getfield 98, 3) := by decide +kernel
theorem dX9_readLaw_107 : decode cX9_readLaw 107 = .ok (.iconst 2, 1) := by decide +kernel
theorem dX9_readLaw_108 : decode cX9_readLaw 108 = .ok (.iload_n 1, 1) := by decide +kernel
theorem dX9_readLaw_109 : decode cX9_readLaw 109 = .ok (.imul, 1) := by decide +kernel
theorem dX9_readLaw_110 : decode cX9_readLaw 110 = .ok (.iconst 1, 1) := by decide +kernel
theorem dX9_readLaw_111 : decode cX9_readLaw 111 = .ok (.iadd, 1) := by decide +kernel
theorem dX9_readLaw_112 : decode cX9_readLaw 112 = .ok (.aload_n 0, 1) := by decide +kernel
theorem dX9_readLaw_113 : decode cX9_readLaw 113 = .ok (.getfield 282, 3) := by decide +kernel
theorem dX9_readLaw_116 : decode cX9_readLaw 116 = .ok (.iastore, 1) := by decide +kernel
theorem dX9_readLaw_117 : decode cX9_readLaw 117 = .ok (.aload_n 0, 1) := by decide +kernel
theorem dX9_readLaw_118 : decode cX9_readLaw 118 = .ok (.invokevirtual 258, 3) := by decide +kernel
theorem dX9_readLaw_121 : decode cX9_readLaw 121 = .ok (.ifCond .eq 7, 3) := by decide +kernel
theorem dX9_readLaw_124 : decode cX9_readLaw 124 = .ok (.aload_n 0, 1) := by decide +kernel
theorem dX9_readLaw_125 : decode cX9_readLaw 125 = .ok (.invokevirtual 336, 3) := by decide +kernel
theorem dX9_readLaw_128 : decode cX9_readLaw 128 = .ok (.aload_n 0, 1) := by decide +kernel
theorem dX9_readLaw_129 : decode cX9_readLaw 129 = .ok (.getfield 101, 3) := by decide +kernel
theorem dX9_readLaw_132 : decode cX9_readLaw 132 = .ok (.iconst 2, 1) := by decide +kernel
theorem dX9_readLaw_133 : decode cX9_readLaw 133 = .ok (.iload_n 1, 1) := by decide +kernel
theorem dX9_readLaw_134 : decode cX9_readLaw 134 = .ok (.imul, 1) := by decide +kernel
theorem dX9_readLaw_135 : decode cX9_readLaw 135 = .ok (.iconst 1, 1) := by decide +kernel
theorem dX9_readLaw_136 : decode cX9_readLaw 136 = .ok (.iadd, 1) := by decide +kernel
theorem dX9_readLaw_137 : decode cX9_readLaw 137 = .ok (.aload_n 0, 1) := by decide +kernel
theorem dX9_readLaw_138 : decode cX9_readLaw 138 = .ok (.getfield 282, 3) := by decide +kernel
theorem dX9_readLaw_141 : decode cX9_readLaw 141 = .ok (.iastore, 1) := by decide +kernel
theorem dX9_readLaw_142 : decode cX9_readLaw 142 = .ok (.aload_n 0, 1) := by decide +kernel
theorem dX9_readLaw_143 : decode cX9_readLaw 143 = .ok (.getfield 30, 3) := by decide +kernel
theorem dX9_readLaw_146 : decode cX9_readLaw 146 = .ok (.aload_n 0, 1) := by decide +kernel
theorem dX9_readLaw_147 : decode cX9_readLaw 147 = .ok (.getfield 279, 3) := by decide +kernel
theorem dX9_readLaw_150 : decode cX9_readLaw 150 = .ok (.dup2, 1) := by decide +kernel
theorem dX9_readLaw_151 : decode cX9_readLaw 151 = .ok (.iaload, 1) := by decide +kernel
theorem dX9_readLaw_152 : decode cX9_readLaw 152 = .ok (.iconst 1, 1) := by decide +kernel
theorem dX9_readLaw_153 : decode cX9_readLaw 153 = .ok (.iadd, 1) := by decide +kernel
theorem dX9_readLaw_154 : decode cX9_readLaw 154 = .ok (.iastore, 1) := by decide +kernel
theorem dX9_readLaw_155 : decode cX9_readLaw 155 = .ok (.return_, 1) := by decide +kernel
theorem dX9_clearBank_0 : decode cX9_clearBank 0 = .ok (.aload_n 0, 1) := by decide +kernel
theorem dX9_clearBank_1 : decode cX9_clearBank 1 = .ok (.getfield 20, 3) := by decide +kernel
theorem dX9_clearBank_4 : decode cX9_clearBank 4 = .ok (.aload_n 0, 1) := by decide +kernel
theorem dX9_clearBank_5 : decode cX9_clearBank 5 = .ok (.getfield 279, 3) := by decide +kernel
theorem dX9_clearBank_8 : decode cX9_clearBank 8 = .ok (.iconst 0, 1) := by decide +kernel
theorem dX9_clearBank_9 : decode cX9_clearBank 9 = .ok (.iastore, 1) := by decide +kernel
theorem dX9_clearBank_10 : decode cX9_clearBank 10 = .ok (.aload_n 0, 1) := by decide +kernel
theorem dX9_clearBank_11 : decode cX9_clearBank 11 = .ok (.getfield 24, 3) := by decide +kernel
theorem dX9_clearBank_14 : decode cX9_clearBank 14 = .ok (.aload_n 0, 1) := by decide +kernel
theorem dX9_clearBank_15 : decode cX9_clearBank 15 = .ok (.getfield 279, 3) := by decide +kernel
theorem dX9_clearBank_18 : decode cX9_clearBank 18 = .ok (.iconst 0, 1) := by decide +kernel
theorem dX9_clearBank_19 : decode cX9_clearBank 19 = .ok (.iastore, 1) := by decide +kernel
theorem dX9_clearBank_20 : decode cX9_clearBank 20 = .ok (.aload_n 0, 1) := by decide +kernel
theorem dX9_clearBank_21 : decode cX9_clearBank 21 = .ok (.getfield 27, 3) := by decide +kernel
theorem dX9_clearBank_24 : decode cX9_clearBank 24 = .ok (.aload_n 0, 1) := by decide +kernel
theorem dX9_clearBank_25 : decode cX9_clearBank 25 = .ok (.getfield 279, 3) := by decide +kernel
theorem dX9_clearBank_28 : decode cX9_clearBank 28 = .ok (.iconst 0, 1) := by decide +kernel
theorem dX9_clearBank_29 : decode cX9_clearBank 29 = .ok (.iastore, 1) := by decide +kernel
theorem dX9_clearBank_30 : decode cX9_clearBank 30 = .ok (.aload_n 0, 1) := by decide +kernel
theorem dX9_clearBank_31 : decode cX9_clearBank 31 = .ok (.getfield 30, 3) := by decide +kernel
theorem dX9_clearBank_34 : decode cX9_clearBank 34 = .ok (.aload_n 0, 1) := by decide +kernel
theorem dX9_clearBank_35 : decode cX9_clearBank 35 = .ok (.getfield 279, 3) := by decide +kernel
theorem dX9_clearBank_38 : decode cX9_clearBank 38 = .ok (.iconst 0, 1) := by decide +kernel
theorem dX9_clearBank_39 : decode cX9_clearBank 39 = .ok (.iastore, 1) := by decide +kernel
theorem dX9_clearBank_40 : decode cX9_clearBank 40 = .ok (.aload_n 0, 1) := by decide +kernel
theorem dX9_clearBank_41 : decode cX9_clearBank 41 = .ok (.getfield 33, 3) := by decide +kernel
theorem dX9_clearBank_44 : decode cX9_clearBank 44 = .ok (.aload_n 0, 1) := by decide +kernel
theorem dX9_clearBank_45 : decode cX9_clearBank 45 = .ok (.getfield 279, 3) := by decide +kernel
theorem dX9_clearBank_48 : decode cX9_clearBank 48 = .ok (.iconst 0, 1) := by decide +kernel
theorem dX9_clearBank_49 : decode cX9_clearBank 49 = .ok (.iastore, 1) := by decide +kernel
theorem dX9_clearBank_50 : decode cX9_clearBank 50 = .ok (.aload_n 0, 1) := by decide +kernel
theorem dX9_clearBank_51 : decode cX9_clearBank 51 = .ok (.getfield 36, 3) := by decide +kernel
theorem dX9_clearBank_54 : decode cX9_clearBank 54 = .ok (.aload_n 0, 1) := by decide +kernel
theorem dX9_clearBank_55 : decode cX9_clearBank 55 = .ok (.getfield 279, 3) := by decide +kernel
theorem dX9_clearBank_58 : decode cX9_clearBank 58 = .ok (.bipush 100, 2) := by decide +kernel
theorem dX9_clearBank_60 : decode cX9_clearBank 60 = .ok (.iastore, 1) := by decide +kernel
theorem dX9_clearBank_61 : decode cX9_clearBank 61 = .ok (.aload_n 0, 1) := by decide +kernel
theorem dX9_clearBank_62 : decode cX9_clearBank 62 = .ok (.getfield 39, 3) := by decide +kernel
theorem dX9_clearBank_65 : decode cX9_clearBank 65 = .ok (.aload_n 0, 1) := by decide +kernel
theorem dX9_clearBank_66 : decode cX9_clearBank 66 = .ok (.getfield 279, 3) := by decide +kernel
theorem dX9_clearBank_69 : decode cX9_clearBank 69 = .ok (.iconst 0, 1) := by decide +kernel
theorem dX9_clearBank_70 : decode cX9_clearBank 70 = .ok (.iastore, 1) := by decide +kernel
theorem dX9_clearBank_71 : decode cX9_clearBank 71 = .ok (.aload_n 0, 1) := by decide +kernel
theorem dX9_clearBank_72 : decode cX9_clearBank 72 = .ok (.getfield 45, 3) := by decide +kernel
theorem dX9_clearBank_75 : decode cX9_clearBank 75 = .ok (.aload_n 0, 1) := by decide +kernel
theorem dX9_clearBank_76 : decode cX9_clearBank 76 = .ok (.getfield 279, 3) := by decide +kernel
theorem dX9_clearBank_79 : decode cX9_clearBank 79 = .ok (.iconst 0, 1) := by decide +kernel
theorem dX9_clearBank_80 : decode cX9_clearBank 80 = .ok (.bastore, 1) := by decide +kernel
theorem dX9_clearBank_81 : decode cX9_clearBank 81 = .ok (.aload_n 0, 1) := by decide +kernel
theorem dX9_clearBank_82 : decode cX9_clearBank 82 = .ok (.getfield 49, 3) := by decide +kernel
theorem dX9_clearBank_85 : decode cX9_clearBank 85 = .ok (.aload_n 0, 1) := by decide +kernel
theorem dX9_clearBank_86 : decode cX9_clearBank 86 = .ok (.getfield 279, 3) := by decide +kernel
theorem dX9_clearBank_89 : decode cX9_clearBank 89 = .ok (.iconst 0, 1) := by decide +kernel
theorem dX9_clearBank_90 : decode cX9_clearBank 90 = .ok (.bastore, 1) := by decide +kernel
theorem dX9_clearBank_91 : decode cX9_clearBank 91 = .ok (.aload_n 0, 1) := by decide +kernel
theorem dX9_clearBank_92 : decode cX9_clearBank 92 = .ok (.sipush 900, 3) := by decide +kernel
theorem dX9_clearBank_95 : decode cX9_clearBank 95 = .ok (.aload_n 0, 1) := by decide +kernel
theorem dX9_clearBank_96 : decode cX9_clearBank 96 = .ok (.getfield 279, 3) := by decide +kernel
theorem dX9_clearBank_99 : decode cX9_clearBank 99 = .ok (.imul, 1) := by decide +kernel
theorem dX9_clearBank_100 : decode cX9_clearBank 100 = .ok (.putfield 282, 3) := by decide +kernel
theorem dX9_clearBank_103 : decode cX9_clearBank 103 = .ok (.aload_n 0, 1) := by decide +kernel
theorem dX9_clearBank_104 : decode cX9_clearBank 104 = .ok (.iconst 0, 1) := by decide +kernel
theorem dX9_clearBank_105 : decode cX9_clearBank 105 = .ok (.putfield 285, 3) := by decide +kernel
theorem dX9_clearBank_108 : decode cX9_clearBank 108 = .ok (.return_, 1) := by decide +kernel
theorem dX9_isFull_0 : decode cX9_isFull 0 = .ok (.aload_n 0, 1) := by decide +kernel
theorem dX9_isFull_1 : decode cX9_isFull 1 = .ok (.ldc2_w 176, 3) := by decide +kernel
theorem dX9_isFull_4 : decode cX9_isFull 4 = .ok (.invokevirtual 268, 3) := by decide +kernel
theorem dX9_isFull_7 : decode cX9_isFull 7 = .ok (.ifCond .eq 23, 3) := by decide +kernel
theorem dX9_isFull_10 : decode cX9_isFull 10 = .ok (.aload_n 0, 1) := by decide +kernel
theorem dX9_isFull_11 : decode cX9_isFull 11 = .ok (.getfield 20, 3) := by decide +kernel
theorem dX9_isFull_14 : decode cX9_isFull 14 = .ok (.aload_n 0, 1) := by decide +kernel
theorem dX9_isFull_15 : decode cX9_isFull 15 = .ok (.getfield 279, 3) := by decide +kernel
theorem dX9_isFull_18 : decode cX9_isFull 18 = .ok (.iaload, 1) := by decide +kernel
theorem dX9_isFull_19 : decode cX9_isFull 19 = .ok (.bipush 6, 2) := by decide +kernel
theorem dX9_isFull_21 : decode cX9_isFull 21 = .ok (.if_icmp .ne 7, 3) := by decide +kernel
theorem dX9_isFull_28 : decode cX9_isFull 28 = .ok (.iconst 0, 1) := by decide +kernel
theorem dX9_isFull_29 : decode cX9_isFull 29 = .ok (.ireturn, 1) := by decide +kernel
theorem dX9_isFull_24 : decode cX9_isFull 24 = .ok (.iconst 1, 1) := by decide +kernel
theorem dX9_isFull_25 : decode cX9_isFull 25 = .ok (.goto 4, 3) := by decide +kernel
theorem dX9_isFull_30 : decode cX9_isFull 30 = .ok (.aload_n 0, 1) := by decide +kernel
theorem dX9_isFull_31 : decode cX9_isFull 31 = .ok (.ldc2_w 182, 3) := by decide +kernel
theorem dX9_isFull_34 : decode cX9_isFull 34 = .ok (.invokevirtual 268, 3) := by decide +kernel
theorem dX9_isFull_37 : decode cX9_isFull 37 = .ok (.ifCond .eq 22, 3) := by decide +kernel
theorem dX9_isFull_40 : decode cX9_isFull 40 = .ok (.aload_n 0, 1) := by decide +kernel
theorem dX9_isFull_41 : decode cX9_isFull 41 = .ok (.getfield 24, 3) := by decide +kernel
theorem dX9_isFull_44 : decode cX9_isFull 44 = .ok (.aload_n 0, 1) := by decide +kernel
theorem dX9_isFull_45 : decode cX9_isFull 45 = .ok (.getfield 279, 3) := by decide +kernel
theorem dX9_isFull_48 : decode cX9_isFull 48 = .ok (.iaload, 1) := by decide +kernel
theorem dX9_isFull_49 : decode cX9_isFull 49 = .ok (.iconst 4, 1) := by decide +kernel
theorem dX9_isFull_50 : decode cX9_isFull 50 = .ok (.if_icmp .ne 7, 3) := by decide +kernel
theorem dX9_isFull_57 : decode cX9_isFull 57 = .ok (.iconst 0, 1) := by decide +kernel
theorem dX9_isFull_58 : decode cX9_isFull 58 = .ok (.ireturn, 1) := by decide +kernel
theorem dX9_isFull_53 : decode cX9_isFull 53 = .ok (.iconst 1, 1) := by decide +kernel
theorem dX9_isFull_54 : decode cX9_isFull 54 = .ok (.goto 4, 3) := by decide +kernel
theorem dX9_isFull_59 : decode cX9_isFull 59 = .ok (.aload_n 0, 1) := by decide +kernel
theorem dX9_isFull_60 : decode cX9_isFull 60 = .ok (.ldc2_w 190, 3) := by decide +kernel
theorem dX9_isFull_63 : decode cX9_isFull 63 = .ok (.invokevirtual 268, 3) := by decide +kernel
theorem dX9_isFull_66 : decode cX9_isFull 66 = .ok (.ifCond .eq 22, 3) := by decide +kernel
theorem dX9_isFull_69 : decode cX9_isFull 69 = .ok (.aload_n 0, 1) := by decide +kernel
theorem dX9_isFull_70 : decode cX9_isFull 70 = .ok (.getfield 27, 3) := by decide +kernel
theorem dX9_isFull_73 : decode cX9_isFull 73 = .ok (.aload_n 0, 1) := by decide +kernel
theorem dX9_isFull_74 : decode cX9_isFull 74 = .ok (.getfield 279, 3) := by decide +kernel
theorem dX9_isFull_77 : decode cX9_isFull 77 = .ok (.iaload, 1) := by decide +kernel
theorem dX9_isFull_78 : decode cX9_isFull 78 = .ok (.iconst 4, 1) := by decide +kernel
theorem dX9_isFull_79 : decode cX9_isFull 79 = .ok (.if_icmp .ne 7, 3) := by decide +kernel
theorem dX9_isFull_86 : decode cX9_isFull 86 = .ok (.iconst 0, 1) := by decide +kernel
theorem dX9_isFull_87 : decode cX9_isFull 87 = .ok (.ireturn, 1) := by decide +kernel
theorem dX9_isFull_82 : decode cX9_isFull 82 = .ok (.iconst 1, 1) := by decide +kernel
theorem dX9_isFull_83 : decode cX9_isFull 83 = .ok (.goto 4, 3) := by decide +kernel
theorem dX9_isFull_88 : decode cX9_isFull 88 = .ok (.aload_n 0, 1) := by decide +kernel
theorem dX9_isFull_89 : decode cX9_isFull 89 = .ok (.ldc2_w 196, 3) := by decide +kernel
theorem dX9_isFull_92 : decode cX9_isFull 92 = .ok (.invokevirtual 268, 3) := by decide +kernel
theorem dX9_isFull_95 : decode cX9_isFull 95 = .ok (.ifCond .eq 22, 3) := by decide +kernel
theorem dX9_isFull_98 : decode cX9_isFull 98 = .ok (.aload_n 0, 1) := by decide +kernel
theorem dX9_isFull_99 : decode cX9_isFull 99 = .ok (.getfield 30, 3) := by decide +kernel
theorem dX9_isFull_102 : decode cX9_isFull 102 = .ok (.aload_n 0, 1) := by decide +kernel
theorem dX9_isFull_103 : decode cX9_isFull 103 = .ok (.getfield 279, 3) := by decide +kernel
theorem dX9_isFull_106 : decode cX9_isFull 106 = .ok (.iaload, 1) := by decide +kernel
theorem dX9_isFull_107 : decode cX9_isFull 107 = .ok (.iconst 3, 1) := by decide +kernel
theorem dX9_isFull_108 : decode cX9_isFull 108 = .ok (.if_icmp .ne 7, 3) := by decide +kernel
theorem dX9_isFull_115 : decode cX9_isFull 115 = .ok (.iconst 0, 1) := by decide +kernel
theorem dX9_isFull_116 : decode cX9_isFull 116 = .ok (.ireturn, 1) := by decide +kernel
theorem dX9_isFull_111 : decode cX9_isFull 111 = .ok (.iconst 1, 1) := by decide +kernel
theorem dX9_isFull_112 : decode cX9_isFull 112 = .ok (.goto 4, 3) := by decide +kernel
theorem dX9_isFull_117 : decode cX9_isFull 117 = .ok (.aload_n 0, 1) := by decide +kernel
theorem dX9_isFull_118 : decode cX9_isFull 118 = .ok (.ldc2_w 202, 3) := by decide +kernel
theorem dX9_isFull_121 : decode cX9_isFull 121 = .ok (.invokevirtual 268, 3) := by decide +kernel
theorem dX9_isFull_124 : decode cX9_isFull 124 = .ok (.ifCond .eq 22, 3) := by decide +kernel
theorem dX9_isFull_127 : decode cX9_isFull 127 = .ok (.aload_n 0, 1) := by decide +kernel
theorem dX9_isFull_128 : decode cX9_isFull 128 = .ok (.getfield 33, 3) := by decide +kernel
theorem dX9_isFull_131 : decode cX9_isFull 131 = .ok (.aload_n 0, 1) := by decide +kernel
theorem dX9_isFull_132 : decode cX9_isFull 132 = .ok (.getfield 279, 3) := by decide +kernel
theorem dX9_isFull_135 : decode cX9_isFull 135 = .ok (.iaload, 1) := by decide +kernel
theorem dX9_isFull_136 : decode cX9_isFull 136 = .ok (.iconst 4, 1) := by decide +kernel
theorem dX9_isFull_137 : decode cX9_isFull 137 = .ok (.if_icmp .ne 7, 3) := by decide +kernel
theorem dX9_isFull_144 : decode cX9_isFull 144 = .ok (.iconst 0, 1) := by decide +kernel
theorem dX9_isFull_145 : decode cX9_isFull 145 = .ok (.ireturn, 1) := by decide +kernel
theorem dX9_isFull_140 : decode cX9_isFull 140 = .ok (.iconst 1, 1) := by decide +kernel
theorem dX9_isFull_141 : decode cX9_isFull 141 = .ok (.goto 4, 3) := by decide +kernel
theorem dX9_isFull_146 : decode cX9_isFull 146 = .ok (.aload_n 0, 1) := by decide +kernel
theorem dX9_isFull_147 : decode cX9_isFull 147 = .ok (.ldc2_w 192, 3) := by decide +kernel
theorem dX9_isFull_150 : decode cX9_isFull 150 = .ok (.invokevirtual 268, 3) := by decide +kernel
theorem dX9_isFull_153 : decode cX9_isFull 153 = .ok (.ifCond .eq 13, 3) := by decide +kernel
theorem dX9_isFull_156 : decode cX9_isFull 156 = .ok (.aload_n 0, 1) := by decide +kernel
theorem dX9_isFull_157 : decode cX9_isFull 157 = .ok (.getfield 45, 3) := by decide +kernel
theorem dX9_isFull_160 : decode cX9_isFull 160 = .ok (.aload_n 0, 1) := by decide +kernel
theorem dX9_isFull_161 : decode cX9_isFull 161 = .ok (.getfield 279, 3) := by decide +kernel
theorem dX9_isFull_164 : decode cX9_isFull 164 = .ok (.baload, 1) := by decide +kernel
theorem dX9_isFull_165 : decode cX9_isFull 165 = .ok (.ireturn, 1) := by decide +kernel
theorem dX9_isFull_166 : decode cX9_isFull 166 = .ok (.aload_n 0, 1) := by decide +kernel
theorem dX9_isFull_167 : decode cX9_isFull 167 = .ok (.ldc2_w 194, 3) := by decide +kernel
theorem dX9_isFull_170 : decode cX9_isFull 170 = .ok (.invokevirtual 268, 3) := by decide +kernel
theorem dX9_isFull_173 : decode cX9_isFull 173 = .ok (.ifCond .eq 15, 3) := by decide +kernel
theorem dX9_isFull_176 : decode cX9_isFull 176 = .ok (.aload_n 0, 1) := by decide +kernel
theorem dX9_isFull_177 : decode cX9_isFull 177 = .ok (.getfield 49, 3) := by decide +kernel
theorem dX9_isFull_180 : decode cX9_isFull 180 = .ok (.aload_n 0, 1) := by decide +kernel
theorem dX9_isFull_181 : decode cX9_isFull 181 = .ok (.getfield 279, 3) := by decide +kernel
theorem dX9_isFull_184 : decode cX9_isFull 184 = .ok (.baload, 1) := by decide +kernel
theorem dX9_isFull_185 : decode cX9_isFull 185 = .ok (.ifCond .eq 7, 3) := by decide +kernel
theorem dX9_isFull_192 : decode cX9_isFull 192 = .ok (.iconst 0, 1) := by decide +kernel
theorem dX9_isFull_193 : decode cX9_isFull 193 = .ok (.ireturn, 1) := by decide +kernel
theorem dX9_isFull_188 : decode cX9_isFull 188 = .ok (.iconst 1, 1) := by decide +kernel
theorem dX9_isFull_189 : decode cX9_isFull 189 = .ok (.goto 4, 3) := by decide +kernel
