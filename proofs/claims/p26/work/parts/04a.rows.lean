theorem dX0_likeBits_0 : decode cX0_likeBits 0 = .ok (.iconst 1, 1) := by decide +kernel
theorem dX0_likeBits_1 : decode cX0_likeBits 1 = .ok (.iload_n 0, 1) := by decide +kernel
theorem dX0_likeBits_2 : decode cX0_likeBits 2 = .ok (.ishl, 1) := by decide +kernel
theorem dX0_likeBits_3 : decode cX0_likeBits 3 = .ok (.iconst 2, 1) := by decide +kernel
theorem dX0_likeBits_4 : decode cX0_likeBits 4 = .ok (.isub, 1) := by decide +kernel
theorem dX0_likeBits_5 : decode cX0_likeBits 5 = .ok (.istore_n 2, 1) := by decide +kernel
theorem dX0_likeBits_6 : decode cX0_likeBits 6 = .ok (.iload_n 1, 1) := by decide +kernel
theorem dX0_likeBits_7 : decode cX0_likeBits 7 = .ok (.iload_n 1, 1) := by decide +kernel
theorem dX0_likeBits_8 : decode cX0_likeBits 8 = .ok (.iconst 1, 1) := by decide +kernel
theorem dX0_likeBits_9 : decode cX0_likeBits 9 = .ok (.ishl, 1) := by decide +kernel
theorem dX0_likeBits_10 : decode cX0_likeBits 10 = .ok (.ixor, 1) := by decide +kernel
theorem dX0_likeBits_11 : decode cX0_likeBits 11 = .ok (.iconst (-1), 1) := by decide +kernel
theorem dX0_likeBits_12 : decode cX0_likeBits 12 = .ok (.ixor, 1) := by decide +kernel
theorem dX0_likeBits_13 : decode cX0_likeBits 13 = .ok (.iload_n 2, 1) := by decide +kernel
theorem dX0_likeBits_14 : decode cX0_likeBits 14 = .ok (.iand, 1) := by decide +kernel
theorem dX0_likeBits_15 : decode cX0_likeBits 15 = .ok (.ireturn, 1) := by decide +kernel
theorem dX0_takeKnot_0 : decode cX0_takeKnot 0 = .ok (.aload_n 0, 1) := by decide +kernel
theorem dX0_takeKnot_1 : decode cX0_takeKnot 1 = .ok (.iload_n 1, 1) := by decide +kernel
theorem dX0_takeKnot_2 : decode cX0_takeKnot 2 = .ok (.bipush 12, 2) := by decide +kernel
theorem dX0_takeKnot_4 : decode cX0_takeKnot 4 = .ok (.invokestatic 60, 3) := by decide +kernel
theorem dX0_takeKnot_7 : decode cX0_takeKnot 7 = .ok (.putfield 20, 3) := by decide +kernel
theorem dX0_takeKnot_10 : decode cX0_takeKnot 10 = .ok (.aload_n 0, 1) := by decide +kernel
theorem dX0_takeKnot_11 : decode cX0_takeKnot 11 = .ok (.iload_n 2, 1) := by decide +kernel
theorem dX0_takeKnot_12 : decode cX0_takeKnot 12 = .ok (.putfield 39, 3) := by decide +kernel
theorem dX0_takeKnot_15 : decode cX0_takeKnot 15 = .ok (.aload_n 0, 1) := by decide +kernel
theorem dX0_takeKnot_16 : decode cX0_takeKnot 16 = .ok (.aload_n 0, 1) := by decide +kernel
theorem dX0_takeKnot_17 : decode cX0_takeKnot 17 = .ok (.getfield 20, 3) := by decide +kernel
theorem dX0_takeKnot_20 : decode cX0_takeKnot 20 = .ok (.aload_n 0, 1) := by decide +kernel
theorem dX0_takeKnot_21 : decode cX0_takeKnot 21 = .ok (.getfield 39, 3) := by decide +kernel
theorem dX0_takeKnot_24 : decode cX0_takeKnot 24 = .ok (.invokestatic 66, 3) := by decide +kernel
theorem dX0_takeKnot_27 : decode cX0_takeKnot 27 = .ok (.putfield 42, 3) := by decide +kernel
theorem dX0_takeKnot_30 : decode cX0_takeKnot 30 = .ok (.return_, 1) := by decide +kernel
theorem dX0_takeCord_0 : decode cX0_takeCord 0 = .ok (.aload_n 0, 1) := by decide +kernel
theorem dX0_takeCord_1 : decode cX0_takeCord 1 = .ok (.iload_n 1, 1) := by decide +kernel
theorem dX0_takeCord_2 : decode cX0_takeCord 2 = .ok (.putfield 45, 3) := by decide +kernel
theorem dX0_takeCord_5 : decode cX0_takeCord 5 = .ok (.aload_n 0, 1) := by decide +kernel
theorem dX0_takeCord_6 : decode cX0_takeCord 6 = .ok (.iload_n 2, 1) := by decide +kernel
theorem dX0_takeCord_7 : decode cX0_takeCord 7 = .ok (.putfield 48, 3) := by decide +kernel
theorem dX0_takeCord_10 : decode cX0_takeCord 10 = .ok (.aload_n 0, 1) := by decide +kernel
theorem dX0_takeCord_11 : decode cX0_takeCord 11 = .ok (.iload_n 3, 1) := by decide +kernel
theorem dX0_takeCord_12 : decode cX0_takeCord 12 = .ok (.putfield 51, 3) := by decide +kernel
theorem dX0_takeCord_15 : decode cX0_takeCord 15 = .ok (.return_, 1) := by decide +kernel
theorem dX0_begin_0 : decode cX0_begin 0 = .ok (.iconst 0, 1) := by decide +kernel
theorem dX0_begin_1 : decode cX0_begin 1 = .ok (.istore_n 2, 1) := by decide +kernel
theorem dX0_begin_2 : decode cX0_begin 2 = .ok (.iload_n 2, 1) := by decide +kernel
theorem dX0_begin_3 : decode cX0_begin 3 = .ok (.aload_n 0, 1) := by decide +kernel
theorem dX0_begin_4 : decode cX0_begin 4 = .ok (.getfield 20, 3) := by decide +kernel
theorem dX0_begin_7 : decode cX0_begin 7 = .ok (.if_icmp .ge 16, 3) := by decide +kernel
theorem dX0_begin_23 : decode cX0_begin 23 = .ok (.aload_n 0, 1) := by decide +kernel
theorem dX0_begin_24 : decode cX0_begin 24 = .ok (.aload_n 0, 1) := by decide +kernel
theorem dX0_begin_25 : decode cX0_begin 25 = .ok (.getfield 20, 3) := by decide +kernel
theorem dX0_begin_28 : decode cX0_begin 28 = .ok (.putfield 24, 3) := by decide +kernel
theorem dX0_begin_31 : decode cX0_begin 31 = .ok (.aload_n 0, 1) := by decide +kernel
theorem dX0_begin_32 : decode cX0_begin 32 = .ok (.getfield 17, 3) := by decide +kernel
theorem dX0_begin_35 : decode cX0_begin 35 = .ok (.iconst 0, 1) := by decide +kernel
theorem dX0_begin_36 : decode cX0_begin 36 = .ok (.aload_n 0, 1) := by decide +kernel
theorem dX0_begin_37 : decode cX0_begin 37 = .ok (.getfield 51, 3) := by decide +kernel
theorem dX0_begin_40 : decode cX0_begin 40 = .ok (.iastore, 1) := by decide +kernel
theorem dX0_begin_41 : decode cX0_begin 41 = .ok (.aload_n 0, 1) := by decide +kernel
theorem dX0_begin_42 : decode cX0_begin 42 = .ok (.getfield 17, 3) := by decide +kernel
theorem dX0_begin_45 : decode cX0_begin 45 = .ok (.iconst 1, 1) := by decide +kernel
theorem dX0_begin_46 : decode cX0_begin 46 = .ok (.aload_n 0, 1) := by decide +kernel
theorem dX0_begin_47 : decode cX0_begin 47 = .ok (.getfield 51, 3) := by decide +kernel
theorem dX0_begin_50 : decode cX0_begin 50 = .ok (.iastore, 1) := by decide +kernel
theorem dX0_begin_51 : decode cX0_begin 51 = .ok (.aload_n 0, 1) := by decide +kernel
theorem dX0_begin_52 : decode cX0_begin 52 = .ok (.iconst 0, 1) := by decide +kernel
theorem dX0_begin_53 : decode cX0_begin 53 = .ok (.putfield 27, 3) := by decide +kernel
theorem dX0_begin_56 : decode cX0_begin 56 = .ok (.aload_n 0, 1) := by decide +kernel
theorem dX0_begin_57 : decode cX0_begin 57 = .ok (.iconst 0, 1) := by decide +kernel
theorem dX0_begin_58 : decode cX0_begin 58 = .ok (.putfield 30, 3) := by decide +kernel
theorem dX0_begin_61 : decode cX0_begin 61 = .ok (.aload_n 0, 1) := by decide +kernel
theorem dX0_begin_62 : decode cX0_begin 62 = .ok (.iconst (-1), 1) := by decide +kernel
theorem dX0_begin_63 : decode cX0_begin 63 = .ok (.putfield 33, 3) := by decide +kernel
theorem dX0_begin_66 : decode cX0_begin 66 = .ok (.aload_n 0, 1) := by decide +kernel
theorem dX0_begin_67 : decode cX0_begin 67 = .ok (.iconst 0, 1) := by decide +kernel
theorem dX0_begin_68 : decode cX0_begin 68 = .ok (.putfield 36, 3) := by decide +kernel
theorem dX0_begin_71 : decode cX0_begin 71 = .ok (.return_, 1) := by decide +kernel
theorem dX0_begin_10 : decode cX0_begin 10 = .ok (.aload_n 0, 1) := by decide +kernel
theorem dX0_begin_11 : decode cX0_begin 11 = .ok (.getfield 11, 3) := by decide +kernel
theorem dX0_begin_14 : decode cX0_begin 14 = .ok (.iload_n 2, 1) := by decide +kernel
theorem dX0_begin_15 : decode cX0_begin 15 = .ok (.iload_n 1, 1) := by decide +kernel
theorem dX0_begin_16 : decode cX0_begin 16 = .ok (.iastore, 1) := by decide +kernel
theorem dX0_begin_17 : decode cX0_begin 17 = .ok (.iinc 2 1, 3) := by decide +kernel
theorem dX0_begin_20 : decode cX0_begin 20 = .ok (.goto (-18), 3) := by decide +kernel
theorem dX3_join_0 : decode cX3_join 0 = .ok (.iload_n 0, 1) := by decide +kernel
theorem dX3_join_1 : decode cX3_join 1 = .ok (.lookupswitch 146 #[(42, 83), (43, 75), (45, 79), (47, 87), (60, 99), (61, 121), (62, 110), (276, 132)], 75) := by decide +kernel
theorem dX3_join_84 : decode cX3_join 84 = .ok (.iload_n 1, 1) := by decide +kernel
theorem dX3_join_85 : decode cX3_join 85 = .ok (.iload_n 2, 1) := by decide +kernel
theorem dX3_join_86 : decode cX3_join 86 = .ok (.imul, 1) := by decide +kernel
theorem dX3_join_87 : decode cX3_join 87 = .ok (.ireturn, 1) := by decide +kernel
theorem dX3_join_76 : decode cX3_join 76 = .ok (.iload_n 1, 1) := by decide +kernel
theorem dX3_join_77 : decode cX3_join 77 = .ok (.iload_n 2, 1) := by decide +kernel
theorem dX3_join_78 : decode cX3_join 78 = .ok (.iadd, 1) := by decide +kernel
theorem dX3_join_79 : decode cX3_join 79 = .ok (.ireturn, 1) := by decide +kernel
theorem dX3_join_80 : decode cX3_join 80 = .ok (.iload_n 1, 1) := by decide +kernel
theorem dX3_join_81 : decode cX3_join 81 = .ok (.iload_n 2, 1) := by decide +kernel
theorem dX3_join_82 : decode cX3_join 82 = .ok (.isub, 1) := by decide +kernel
theorem dX3_join_83 : decode cX3_join 83 = .ok (.ireturn, 1) := by decide +kernel
theorem dX3_join_88 : decode cX3_join 88 = .ok (.iload_n 2, 1) := by decide +kernel
theorem dX3_join_89 : decode cX3_join 89 = .ok (.ifCond .ne 7, 3) := by decide +kernel
theorem dX3_join_96 : decode cX3_join 96 = .ok (.iload_n 1, 1) := by decide +kernel
theorem dX3_join_97 : decode cX3_join 97 = .ok (.iload_n 2, 1) := by decide +kernel
theorem dX3_join_98 : decode cX3_join 98 = .ok (.idiv, 1) := by decide +kernel
theorem dX3_join_99 : decode cX3_join 99 = .ok (.ireturn, 1) := by decide +kernel
theorem dX3_join_92 : decode cX3_join 92 = .ok (.iconst 0, 1) := by decide +kernel
theorem dX3_join_93 : decode cX3_join 93 = .ok (.goto 6, 3) := by decide +kernel
theorem dX3_join_100 : decode cX3_join 100 = .ok (.iload_n 1, 1) := by decide +kernel
theorem dX3_join_101 : decode cX3_join 101 = .ok (.iload_n 2, 1) := by decide +kernel
theorem dX3_join_102 : decode cX3_join 102 = .ok (.if_icmp .ge 7, 3) := by decide +kernel
theorem dX3_join_109 : decode cX3_join 109 = .ok (.iconst 0, 1) := by decide +kernel
theorem dX3_join_110 : decode cX3_join 110 = .ok (.ireturn, 1) := by decide +kernel
theorem dX3_join_105 : decode cX3_join 105 = .ok (.iconst 1, 1) := by decide +kernel
theorem dX3_join_106 : decode cX3_join 106 = .ok (.goto 4, 3) := by decide +kernel
theorem dX3_join_122 : decode cX3_join 122 = .ok (.iload_n 1, 1) := by decide +kernel
theorem dX3_join_123 : decode cX3_join 123 = .ok (.iload_n 2, 1) := by decide +kernel
theorem dX3_join_124 : decode cX3_join 124 = .ok (.if_icmp .ne 7, 3) := by decide +kernel
theorem dX3_join_131 : decode cX3_join 131 = .ok (.iconst 0, 1) := by decide +kernel
theorem dX3_join_132 : decode cX3_join 132 = .ok (.ireturn, 1) := by decide +kernel
theorem dX3_join_127 : decode cX3_join 127 = .ok (.iconst 1, 1) := by decide +kernel
theorem dX3_join_128 : decode cX3_join 128 = .ok (.goto 4, 3) := by decide +kernel
theorem dX3_join_111 : decode cX3_join 111 = .ok (.iload_n 1, 1) := by decide +kernel
theorem dX3_join_112 : decode cX3_join 112 = .ok (.iload_n 2, 1) := by decide +kernel
theorem dX3_join_113 : decode cX3_join 113 = .ok (.if_icmp .le 7, 3) := by decide +kernel
theorem dX3_join_120 : decode cX3_join 120 = .ok (.iconst 0, 1) := by decide +kernel
theorem dX3_join_121 : decode cX3_join 121 = .ok (.ireturn, 1) := by decide +kernel
theorem dX3_join_116 : decode cX3_join 116 = .ok (.iconst 1, 1) := by decide +kernel
theorem dX3_join_117 : decode cX3_join 117 = .ok (.goto 4, 3) := by decide +kernel
theorem dX3_join_133 : decode cX3_join 133 = .ok (.iload_n 1, 1) := by decide +kernel
theorem dX3_join_134 : decode cX3_join 134 = .ok (.ifCond .eq 11, 3) := by decide +kernel
theorem dX3_join_145 : decode cX3_join 145 = .ok (.iconst 0, 1) := by decide +kernel
theorem dX3_join_146 : decode cX3_join 146 = .ok (.ireturn, 1) := by decide +kernel
theorem dX3_join_137 : decode cX3_join 137 = .ok (.iload_n 2, 1) := by decide +kernel
theorem dX3_join_138 : decode cX3_join 138 = .ok (.ifCond .eq 7, 3) := by decide +kernel
theorem dX3_join_141 : decode cX3_join 141 = .ok (.iconst 1, 1) := by decide +kernel
theorem dX3_join_142 : decode cX3_join 142 = .ok (.goto 4, 3) := by decide +kernel
theorem dX3_join_147 : decode cX3_join 147 = .ok (.iload_n 1, 1) := by decide +kernel
theorem dX3_join_148 : decode cX3_join 148 = .ok (.ifCond .ne 7, 3) := by decide +kernel
theorem dX3_join_155 : decode cX3_join 155 = .ok (.iconst 1, 1) := by decide +kernel
theorem dX3_join_156 : decode cX3_join 156 = .ok (.goto 4, 3) := by decide +kernel
theorem dX3_join_160 : decode cX3_join 160 = .ok (.ireturn, 1) := by decide +kernel
theorem dX3_join_151 : decode cX3_join 151 = .ok (.iload_n 2, 1) := by decide +kernel
theorem dX3_join_152 : decode cX3_join 152 = .ok (.ifCond .eq 7, 3) := by decide +kernel
theorem dX3_join_159 : decode cX3_join 159 = .ok (.iconst 0, 1) := by decide +kernel
theorem dX6_isUnitWord_0 : decode cX6_isUnitWord 0 = .ok (.iload_n 0, 1) := by decide +kernel
theorem dX6_isUnitWord_1 : decode cX6_isUnitWord 1 = .ok (.sipush 261, 3) := by decide +kernel
theorem dX6_isUnitWord_4 : decode cX6_isUnitWord 4 = .ok (.if_icmp .lt 14, 3) := by decide +kernel
theorem dX6_isUnitWord_18 : decode cX6_isUnitWord 18 = .ok (.iconst 0, 1) := by decide +kernel
theorem dX6_isUnitWord_19 : decode cX6_isUnitWord 19 = .ok (.ireturn, 1) := by decide +kernel
theorem dX6_isUnitWord_7 : decode cX6_isUnitWord 7 = .ok (.iload_n 0, 1) := by decide +kernel
theorem dX6_isUnitWord_8 : decode cX6_isUnitWord 8 = .ok (.sipush 268, 3) := by decide +kernel
theorem dX6_isUnitWord_11 : decode cX6_isUnitWord 11 = .ok (.if_icmp .gt 7, 3) := by decide +kernel
theorem dX6_isUnitWord_14 : decode cX6_isUnitWord 14 = .ok (.iconst 1, 1) := by decide +kernel
theorem dX6_isUnitWord_15 : decode cX6_isUnitWord 15 = .ok (.goto 4, 3) := by decide +kernel
theorem dX0_tell_0 : decode cX0_tell 0 = .ok (.iload_n 1, 1) := by decide +kernel
theorem dX0_tell_1 : decode cX0_tell 1 = .ok (.tableswitch 90 261 267 #[43, 50, 59, 61, 66, 71, 85], 43) := by decide +kernel
theorem dX0_tell_44 : decode cX0_tell 44 = .ok (.aload_n 0, 1) := by decide +kernel
theorem dX0_tell_45 : decode cX0_tell 45 = .ok (.getfield 11, 3) := by decide +kernel
theorem dX0_tell_48 : decode cX0_tell 48 = .ok (.iload_n 2, 1) := by decide +kernel
theorem dX0_tell_49 : decode cX0_tell 49 = .ok (.iaload, 1) := by decide +kernel
theorem dX0_tell_50 : decode cX0_tell 50 = .ok (.ireturn, 1) := by decide +kernel
theorem dX0_tell_51 : decode cX0_tell 51 = .ok (.aload_n 0, 1) := by decide +kernel
theorem dX0_tell_52 : decode cX0_tell 52 = .ok (.getfield 42, 3) := by decide +kernel
theorem dX0_tell_55 : decode cX0_tell 55 = .ok (.iload_n 2, 1) := by decide +kernel
theorem dX0_tell_56 : decode cX0_tell 56 = .ok (.ishr, 1) := by decide +kernel
theorem dX0_tell_57 : decode cX0_tell 57 = .ok (.iconst 1, 1) := by decide +kernel
theorem dX0_tell_58 : decode cX0_tell 58 = .ok (.iand, 1) := by decide +kernel
theorem dX0_tell_59 : decode cX0_tell 59 = .ok (.ireturn, 1) := by decide +kernel
theorem dX0_tell_60 : decode cX0_tell 60 = .ok (.iload_n 2, 1) := by decide +kernel
theorem dX0_tell_61 : decode cX0_tell 61 = .ok (.ireturn, 1) := by decide +kernel
theorem dX0_tell_62 : decode cX0_tell 62 = .ok (.aload_n 0, 1) := by decide +kernel
theorem dX0_tell_63 : decode cX0_tell 63 = .ok (.getfield 45, 3) := by decide +kernel
theorem dX0_tell_66 : decode cX0_tell 66 = .ok (.ireturn, 1) := by decide +kernel
theorem dX0_tell_67 : decode cX0_tell 67 = .ok (.aload_n 0, 1) := by decide +kernel
theorem dX0_tell_68 : decode cX0_tell 68 = .ok (.getfield 48, 3) := by decide +kernel
theorem dX0_tell_71 : decode cX0_tell 71 = .ok (.ireturn, 1) := by decide +kernel
theorem dX0_tell_72 : decode cX0_tell 72 = .ok (.aload_n 0, 1) := by decide +kernel
theorem dX0_tell_73 : decode cX0_tell 73 = .ok (.getfield 17, 3) := by decide +kernel
theorem dX0_tell_76 : decode cX0_tell 76 = .ok (.aload_n 0, 1) := by decide +kernel
theorem dX0_tell_77 : decode cX0_tell 77 = .ok (.getfield 39, 3) := by decide +kernel
theorem dX0_tell_80 : decode cX0_tell 80 = .ok (.iload_n 2, 1) := by decide +kernel
theorem dX0_tell_81 : decode cX0_tell 81 = .ok (.ishr, 1) := by decide +kernel
theorem dX0_tell_82 : decode cX0_tell 82 = .ok (.iconst 1, 1) := by decide +kernel
theorem dX0_tell_83 : decode cX0_tell 83 = .ok (.iand, 1) := by decide +kernel
theorem dX0_tell_84 : decode cX0_tell 84 = .ok (.iaload, 1) := by decide +kernel
theorem dX0_tell_85 : decode cX0_tell 85 = .ok (.ireturn, 1) := by decide +kernel
theorem dX0_tell_86 : decode cX0_tell 86 = .ok (.aload_n 0, 1) := by decide +kernel
theorem dX0_tell_87 : decode cX0_tell 87 = .ok (.getfield 54, 3) := by decide +kernel
theorem dX0_tell_90 : decode cX0_tell 90 = .ok (.ireturn, 1) := by decide +kernel
theorem dX0_tell_91 : decode cX0_tell 91 = .ok (.aload_n 0, 1) := by decide +kernel
theorem dX0_tell_92 : decode cX0_tell 92 = .ok (.getfield 57, 3) := by decide +kernel
theorem dX0_tell_95 : decode cX0_tell 95 = .ok (.ireturn, 1) := by decide +kernel
