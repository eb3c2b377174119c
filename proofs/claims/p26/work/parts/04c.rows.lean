theorem dJ9_min_f86c9_0 : decode cJ9_min_f86c9 0 = .ok (.lload_n 0, 1) := by decide +kernel
theorem dJ9_min_f86c9_1 : decode cJ9_min_f86c9 1 = .ok (.lload_n 2, 1) := by decide +kernel
theorem dJ9_min_f86c9_2 : decode cJ9_min_f86c9 2 = .ok (.lcmp, 1) := by decide +kernel
theorem dJ9_min_f86c9_3 : decode cJ9_min_f86c9 3 = .ok (.ifCond .gt 7, 3) := by decide +kernel
theorem dJ9_min_f86c9_10 : decode cJ9_min_f86c9 10 = .ok (.lload_n 2, 1) := by decide +kernel
theorem dJ9_min_f86c9_11 : decode cJ9_min_f86c9 11 = .ok (.lreturn, 1) := by decide +kernel
theorem dJ9_min_f86c9_6 : decode cJ9_min_f86c9 6 = .ok (.lload_n 0, 1) := by decide +kernel
theorem dJ9_min_f86c9_7 : decode cJ9_min_f86c9 7 = .ok (.goto 4, 3) := by decide +kernel
theorem dX0_slipOf_0 : decode cX0_slipOf 0 = .ok (.iload_n 2, 1) := by decide +kernel
theorem dX0_slipOf_1 : decode cX0_slipOf 1 = .ok (.iload_n 3, 1) := by decide +kernel
theorem dX0_slipOf_2 : decode cX0_slipOf 2 = .ok (.if_icmp .gt 5, 3) := by decide +kernel
theorem dX0_slipOf_7 : decode cX0_slipOf 7 = .ok (.iload_n 2, 1) := by decide +kernel
theorem dX0_slipOf_8 : decode cX0_slipOf 8 = .ok (.i2l, 1) := by decide +kernel
theorem dX0_slipOf_9 : decode cX0_slipOf 9 = .ok (.iload_n 3, 1) := by decide +kernel
theorem dX0_slipOf_10 : decode cX0_slipOf 10 = .ok (.i2l, 1) := by decide +kernel
theorem dX0_slipOf_11 : decode cX0_slipOf 11 = .ok (.lsub, 1) := by decide +kernel
theorem dX0_slipOf_12 : decode cX0_slipOf 12 = .ok (.lstore 4, 2) := by decide +kernel
theorem dX0_slipOf_14 : decode cX0_slipOf 14 = .ok (.lload 4, 2) := by decide +kernel
theorem dX0_slipOf_16 : decode cX0_slipOf 16 = .ok (.ldc2_w 91, 3) := by decide +kernel
theorem dX0_slipOf_19 : decode cX0_slipOf 19 = .ok (.ladd, 1) := by decide +kernel
theorem dX0_slipOf_20 : decode cX0_slipOf 20 = .ok (.ldc2_w 93, 3) := by decide +kernel
theorem dX0_slipOf_23 : decode cX0_slipOf 23 = .ok (.ldiv, 1) := by decide +kernel
theorem dX0_slipOf_24 : decode cX0_slipOf 24 = .ok (.aload_n 0, 1) := by decide +kernel
theorem dX0_slipOf_25 : decode cX0_slipOf 25 = .ok (.getfield 11, 3) := by decide +kernel
theorem dX0_slipOf_28 : decode cX0_slipOf 28 = .ok (.iload_n 1, 1) := by decide +kernel
theorem dX0_slipOf_29 : decode cX0_slipOf 29 = .ok (.iaload, 1) := by decide +kernel
theorem dX0_slipOf_30 : decode cX0_slipOf 30 = .ok (.i2l, 1) := by decide +kernel
theorem dX0_slipOf_31 : decode cX0_slipOf 31 = .ok (.invokestatic 95, 3) := by decide +kernel
theorem dX0_slipOf_34 : decode cX0_slipOf 34 = .ok (.l2i, 1) := by decide +kernel
theorem dX0_slipOf_35 : decode cX0_slipOf 35 = .ok (.ireturn, 1) := by decide +kernel
theorem dX0_slipOf_5 : decode cX0_slipOf 5 = .ok (.iconst 0, 1) := by decide +kernel
theorem dX0_slipOf_6 : decode cX0_slipOf 6 = .ok (.ireturn, 1) := by decide +kernel
theorem dX0_slip_0 : decode cX0_slip 0 = .ok (.iconst 0, 1) := by decide +kernel
theorem dX0_slip_1 : decode cX0_slip 1 = .ok (.istore 4, 2) := by decide +kernel
theorem dX0_slip_3 : decode cX0_slip 3 = .ok (.iload_n 3, 1) := by decide +kernel
theorem dX0_slip_4 : decode cX0_slip 4 = .ok (.istore 5, 2) := by decide +kernel
theorem dX0_slip_6 : decode cX0_slip 6 = .ok (.aload_n 0, 1) := by decide +kernel
theorem dX0_slip_7 : decode cX0_slip 7 = .ok (.getfield 24, 3) := by decide +kernel
theorem dX0_slip_10 : decode cX0_slip 10 = .ok (.iconst 1, 1) := by decide +kernel
theorem dX0_slip_11 : decode cX0_slip 11 = .ok (.isub, 1) := by decide +kernel
theorem dX0_slip_12 : decode cX0_slip 12 = .ok (.istore 6, 2) := by decide +kernel
theorem dX0_slip_14 : decode cX0_slip 14 = .ok (.iload 6, 2) := by decide +kernel
theorem dX0_slip_16 : decode cX0_slip 16 = .ok (.ifCond .lt 81, 3) := by decide +kernel
theorem dX0_slip_97 : decode cX0_slip 97 = .ok (.aload_n 0, 1) := by decide +kernel
theorem dX0_slip_98 : decode cX0_slip 98 = .ok (.getfield 24, 3) := by decide +kernel
theorem dX0_slip_101 : decode cX0_slip 101 = .ok (.ifCond .le 30, 3) := by decide +kernel
theorem dX0_slip_131 : decode cX0_slip 131 = .ok (.aload_n 0, 1) := by decide +kernel
theorem dX0_slip_132 : decode cX0_slip 132 = .ok (.dup, 1) := by decide +kernel
theorem dX0_slip_133 : decode cX0_slip 133 = .ok (.getfield 30, 3) := by decide +kernel
theorem dX0_slip_136 : decode cX0_slip 136 = .ok (.iload 4, 2) := by decide +kernel
theorem dX0_slip_138 : decode cX0_slip 138 = .ok (.iadd, 1) := by decide +kernel
theorem dX0_slip_139 : decode cX0_slip 139 = .ok (.putfield 30, 3) := by decide +kernel
theorem dX0_slip_142 : decode cX0_slip 142 = .ok (.iload 4, 2) := by decide +kernel
theorem dX0_slip_144 : decode cX0_slip 144 = .ok (.ireturn, 1) := by decide +kernel
theorem dX0_slip_104 : decode cX0_slip 104 = .ok (.aload_n 0, 1) := by decide +kernel
theorem dX0_slip_105 : decode cX0_slip 105 = .ok (.getfield 11, 3) := by decide +kernel
theorem dX0_slip_108 : decode cX0_slip 108 = .ok (.aload_n 0, 1) := by decide +kernel
theorem dX0_slip_109 : decode cX0_slip 109 = .ok (.getfield 24, 3) := by decide +kernel
theorem dX0_slip_112 : decode cX0_slip 112 = .ok (.iconst 1, 1) := by decide +kernel
theorem dX0_slip_113 : decode cX0_slip 113 = .ok (.isub, 1) := by decide +kernel
theorem dX0_slip_114 : decode cX0_slip 114 = .ok (.iaload, 1) := by decide +kernel
theorem dX0_slip_115 : decode cX0_slip 115 = .ok (.ifCond .ne 16, 3) := by decide +kernel
theorem dX0_slip_118 : decode cX0_slip 118 = .ok (.aload_n 0, 1) := by decide +kernel
theorem dX0_slip_119 : decode cX0_slip 119 = .ok (.dup, 1) := by decide +kernel
theorem dX0_slip_120 : decode cX0_slip 120 = .ok (.getfield 24, 3) := by decide +kernel
theorem dX0_slip_123 : decode cX0_slip 123 = .ok (.iconst 1, 1) := by decide +kernel
theorem dX0_slip_124 : decode cX0_slip 124 = .ok (.isub, 1) := by decide +kernel
theorem dX0_slip_125 : decode cX0_slip 125 = .ok (.putfield 24, 3) := by decide +kernel
theorem dX0_slip_128 : decode cX0_slip 128 = .ok (.goto (-31), 3) := by decide +kernel
theorem dX0_slip_19 : decode cX0_slip 19 = .ok (.aload_n 0, 1) := by decide +kernel
theorem dX0_slip_20 : decode cX0_slip 20 = .ok (.iload 6, 2) := by decide +kernel
theorem dX0_slip_22 : decode cX0_slip 22 = .ok (.iload 5, 2) := by decide +kernel
theorem dX0_slip_24 : decode cX0_slip 24 = .ok (.aload_n 1, 1) := by decide +kernel
theorem dX0_slip_25 : decode cX0_slip 25 = .ok (.iconst 2, 1) := by decide +kernel
theorem dX0_slip_26 : decode cX0_slip 26 = .ok (.iload_n 2, 1) := by decide +kernel
theorem dX0_slip_27 : decode cX0_slip 27 = .ok (.imul, 1) := by decide +kernel
theorem dX0_slip_28 : decode cX0_slip 28 = .ok (.aload_n 0, 1) := by decide +kernel
theorem dX0_slip_29 : decode cX0_slip 29 = .ok (.iload 6, 2) := by decide +kernel
theorem dX0_slip_31 : decode cX0_slip 31 = .ok (.invokevirtual 77, 3) := by decide +kernel
theorem dX0_slip_34 : decode cX0_slip 34 = .ok (.invokevirtual 87, 3) := by decide +kernel
theorem dX0_slip_37 : decode cX0_slip 37 = .ok (.istore 7, 2) := by decide +kernel
theorem dX0_slip_39 : decode cX0_slip 39 = .ok (.iload 7, 2) := by decide +kernel
theorem dX0_slip_41 : decode cX0_slip 41 = .ok (.ifCond .ne 6, 3) := by decide +kernel
theorem dX0_slip_47 : decode cX0_slip 47 = .ok (.aload_n 0, 1) := by decide +kernel
theorem dX0_slip_48 : decode cX0_slip 48 = .ok (.getfield 11, 3) := by decide +kernel
theorem dX0_slip_51 : decode cX0_slip 51 = .ok (.iload 6, 2) := by decide +kernel
theorem dX0_slip_53 : decode cX0_slip 53 = .ok (.dup2, 1) := by decide +kernel
theorem dX0_slip_54 : decode cX0_slip 54 = .ok (.iaload, 1) := by decide +kernel
theorem dX0_slip_55 : decode cX0_slip 55 = .ok (.iload 7, 2) := by decide +kernel
theorem dX0_slip_57 : decode cX0_slip 57 = .ok (.isub, 1) := by decide +kernel
theorem dX0_slip_58 : decode cX0_slip 58 = .ok (.iastore, 1) := by decide +kernel
theorem dX0_slip_59 : decode cX0_slip 59 = .ok (.aload_n 0, 1) := by decide +kernel
theorem dX0_slip_60 : decode cX0_slip 60 = .ok (.getfield 17, 3) := by decide +kernel
theorem dX0_slip_63 : decode cX0_slip 63 = .ok (.aload_n 0, 1) := by decide +kernel
theorem dX0_slip_64 : decode cX0_slip 64 = .ok (.getfield 39, 3) := by decide +kernel
theorem dX0_slip_67 : decode cX0_slip 67 = .ok (.iload 6, 2) := by decide +kernel
theorem dX0_slip_69 : decode cX0_slip 69 = .ok (.ishr, 1) := by decide +kernel
theorem dX0_slip_70 : decode cX0_slip 70 = .ok (.iconst 1, 1) := by decide +kernel
theorem dX0_slip_71 : decode cX0_slip 71 = .ok (.iand, 1) := by decide +kernel
theorem dX0_slip_72 : decode cX0_slip 72 = .ok (.dup2, 1) := by decide +kernel
theorem dX0_slip_73 : decode cX0_slip 73 = .ok (.iaload, 1) := by decide +kernel
theorem dX0_slip_74 : decode cX0_slip 74 = .ok (.iload 7, 2) := by decide +kernel
theorem dX0_slip_76 : decode cX0_slip 76 = .ok (.iadd, 1) := by decide +kernel
theorem dX0_slip_77 : decode cX0_slip 77 = .ok (.iastore, 1) := by decide +kernel
theorem dX0_slip_78 : decode cX0_slip 78 = .ok (.iload 4, 2) := by decide +kernel
theorem dX0_slip_80 : decode cX0_slip 80 = .ok (.iload 7, 2) := by decide +kernel
theorem dX0_slip_82 : decode cX0_slip 82 = .ok (.iadd, 1) := by decide +kernel
theorem dX0_slip_83 : decode cX0_slip 83 = .ok (.istore 4, 2) := by decide +kernel
theorem dX0_slip_85 : decode cX0_slip 85 = .ok (.iconst 4, 1) := by decide +kernel
theorem dX0_slip_86 : decode cX0_slip 86 = .ok (.iload 7, 2) := by decide +kernel
theorem dX0_slip_88 : decode cX0_slip 88 = .ok (.imul, 1) := by decide +kernel
theorem dX0_slip_89 : decode cX0_slip 89 = .ok (.istore 5, 2) := by decide +kernel
theorem dX0_slip_91 : decode cX0_slip 91 = .ok (.iinc 6 (-1), 3) := by decide +kernel
theorem dX0_slip_94 : decode cX0_slip 94 = .ok (.goto (-80), 3) := by decide +kernel
theorem dX0_slip_44 : decode cX0_slip 44 = .ok (.goto 53, 3) := by decide +kernel
theorem dX0_goStep_0 : decode cX0_goStep 0 = .ok (.aload_n 0, 1) := by decide +kernel
theorem dX0_goStep_1 : decode cX0_goStep 1 = .ok (.getfield 24, 3) := by decide +kernel
theorem dX0_goStep_4 : decode cX0_goStep 4 = .ok (.ifCond .ne 5, 3) := by decide +kernel
theorem dX0_goStep_9 : decode cX0_goStep 9 = .ok (.aload_n 0, 1) := by decide +kernel
theorem dX0_goStep_10 : decode cX0_goStep 10 = .ok (.iload_n 3, 1) := by decide +kernel
theorem dX0_goStep_11 : decode cX0_goStep 11 = .ok (.putfield 54, 3) := by decide +kernel
theorem dX0_goStep_14 : decode cX0_goStep 14 = .ok (.aload_n 0, 1) := by decide +kernel
theorem dX0_goStep_15 : decode cX0_goStep 15 = .ok (.iload 4, 2) := by decide +kernel
theorem dX0_goStep_17 : decode cX0_goStep 17 = .ok (.putfield 57, 3) := by decide +kernel
theorem dX0_goStep_20 : decode cX0_goStep 20 = .ok (.aload_n 0, 1) := by decide +kernel
theorem dX0_goStep_21 : decode cX0_goStep 21 = .ok (.aload_n 1, 1) := by decide +kernel
theorem dX0_goStep_22 : decode cX0_goStep 22 = .ok (.iload_n 2, 1) := by decide +kernel
theorem dX0_goStep_23 : decode cX0_goStep 23 = .ok (.aload_n 1, 1) := by decide +kernel
theorem dX0_goStep_24 : decode cX0_goStep 24 = .ok (.iconst 2, 1) := by decide +kernel
theorem dX0_goStep_25 : decode cX0_goStep 25 = .ok (.iload_n 2, 1) := by decide +kernel
theorem dX0_goStep_26 : decode cX0_goStep 26 = .ok (.imul, 1) := by decide +kernel
theorem dX0_goStep_27 : decode cX0_goStep 27 = .ok (.iconst 1, 1) := by decide +kernel
theorem dX0_goStep_28 : decode cX0_goStep 28 = .ok (.iadd, 1) := by decide +kernel
theorem dX0_goStep_29 : decode cX0_goStep 29 = .ok (.aload_n 0, 1) := by decide +kernel
theorem dX0_goStep_30 : decode cX0_goStep 30 = .ok (.aload_n 0, 1) := by decide +kernel
theorem dX0_goStep_31 : decode cX0_goStep 31 = .ok (.getfield 24, 3) := by decide +kernel
theorem dX0_goStep_34 : decode cX0_goStep 34 = .ok (.iconst 1, 1) := by decide +kernel
theorem dX0_goStep_35 : decode cX0_goStep 35 = .ok (.isub, 1) := by decide +kernel
theorem dX0_goStep_36 : decode cX0_goStep 36 = .ok (.invokevirtual 77, 3) := by decide +kernel
theorem dX0_goStep_39 : decode cX0_goStep 39 = .ok (.invokevirtual 83, 3) := by decide +kernel
theorem dX0_goStep_42 : decode cX0_goStep 42 = .ok (.ireturn, 1) := by decide +kernel
theorem dX0_goStep_7 : decode cX0_goStep 7 = .ok (.iconst 0, 1) := by decide +kernel
theorem dX0_goStep_8 : decode cX0_goStep 8 = .ok (.ireturn, 1) := by decide +kernel
theorem dX0_pullByHand_0 : decode cX0_pullByHand 0 = .ok (.aload_n 0, 1) := by decide +kernel
theorem dX0_pullByHand_1 : decode cX0_pullByHand 1 = .ok (.iconst 0, 1) := by decide +kernel
theorem dX0_pullByHand_2 : decode cX0_pullByHand 2 = .ok (.putfield 54, 3) := by decide +kernel
theorem dX0_pullByHand_5 : decode cX0_pullByHand 5 = .ok (.aload_n 0, 1) := by decide +kernel
theorem dX0_pullByHand_6 : decode cX0_pullByHand 6 = .ok (.iconst 0, 1) := by decide +kernel
theorem dX0_pullByHand_7 : decode cX0_pullByHand 7 = .ok (.putfield 57, 3) := by decide +kernel
theorem dX0_pullByHand_10 : decode cX0_pullByHand 10 = .ok (.aload_n 0, 1) := by decide +kernel
theorem dX0_pullByHand_11 : decode cX0_pullByHand 11 = .ok (.aload_n 1, 1) := by decide +kernel
theorem dX0_pullByHand_12 : decode cX0_pullByHand 12 = .ok (.iconst 0, 1) := by decide +kernel
theorem dX0_pullByHand_13 : decode cX0_pullByHand 13 = .ok (.iload_n 2, 1) := by decide +kernel
theorem dX0_pullByHand_14 : decode cX0_pullByHand 14 = .ok (.invokevirtual 83, 3) := by decide +kernel
theorem dX0_pullByHand_17 : decode cX0_pullByHand 17 = .ok (.ireturn, 1) := by decide +kernel
