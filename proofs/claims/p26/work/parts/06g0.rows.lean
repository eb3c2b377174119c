theorem dX4_putToken_0 : decode cX4_putToken 0 = .ok (.aload_n 0, 1) := by decide +kernel
theorem dX4_putToken_1 : decode cX4_putToken 1 = .ok (.getfield 44, 3) := by decide +kernel
theorem dX4_putToken_4 : decode cX4_putToken 4 = .ok (.getfield 89, 3) := by decide +kernel
theorem dX4_putToken_7 : decode cX4_putToken 7 = .ok (.iload_n 1, 1) := by decide +kernel
theorem dX4_putToken_8 : decode cX4_putToken 8 = .ok (.invokevirtual 238, 3) := by decide +kernel
theorem dX4_putToken_11 : decode cX4_putToken 11 = .ok (.ifCond .ne 11, 3) := by decide +kernel
theorem dX4_putToken_22 : decode cX4_putToken 22 = .ok (.iconst 1, 1) := by decide +kernel
theorem dX4_putToken_23 : decode cX4_putToken 23 = .ok (.goto 4, 3) := by decide +kernel
theorem dX4_putToken_27 : decode cX4_putToken 27 = .ok (.ireturn, 1) := by decide +kernel
theorem dX4_putToken_14 : decode cX4_putToken 14 = .ok (.aload_n 0, 1) := by decide +kernel
theorem dX4_putToken_15 : decode cX4_putToken 15 = .ok (.iconst 2, 1) := by decide +kernel
theorem dX4_putToken_16 : decode cX4_putToken 16 = .ok (.invokevirtual 124, 3) := by decide +kernel
theorem dX4_putToken_19 : decode cX4_putToken 19 = .ok (.ifCond .eq 7, 3) := by decide +kernel
theorem dX4_putToken_26 : decode cX4_putToken 26 = .ok (.iconst 0, 1) := by decide +kernel
theorem dX4_readUnit_0 : decode cX4_readUnit 0 = .ok (.aload_n 0, 1) := by decide +kernel
theorem dX4_readUnit_1 : decode cX4_readUnit 1 = .ok (.getfield 28, 3) := by decide +kernel
theorem dX4_readUnit_4 : decode cX4_readUnit 4 = .ok (.iconst 3, 1) := by decide +kernel
theorem dX4_readUnit_5 : decode cX4_readUnit 5 = .ok (.if_icmp .ne 7, 3) := by decide +kernel
theorem dX4_readUnit_12 : decode cX4_readUnit 12 = .ok (.iconst 0, 1) := by decide +kernel
theorem dX4_readUnit_13 : decode cX4_readUnit 13 = .ok (.istore_n 2, 1) := by decide +kernel
theorem dX4_readUnit_14 : decode cX4_readUnit 14 = .ok (.aload_n 0, 1) := by decide +kernel
theorem dX4_readUnit_15 : decode cX4_readUnit 15 = .ok (.getfield 28, 3) := by decide +kernel
theorem dX4_readUnit_18 : decode cX4_readUnit 18 = .ok (.bipush 40, 2) := by decide +kernel
theorem dX4_readUnit_20 : decode cX4_readUnit 20 = .ok (.if_icmp .ne 7, 3) := by decide +kernel
theorem dX4_readUnit_27 : decode cX4_readUnit 27 = .ok (.iconst 0, 1) := by decide +kernel
theorem dX4_readUnit_28 : decode cX4_readUnit 28 = .ok (.istore_n 3, 1) := by decide +kernel
theorem dX4_readUnit_29 : decode cX4_readUnit 29 = .ok (.iload_n 2, 1) := by decide +kernel
theorem dX4_readUnit_30 : decode cX4_readUnit 30 = .ok (.ifCond .ne 23, 3) := by decide +kernel
theorem dX4_readUnit_33 : decode cX4_readUnit 33 = .ok (.iload_n 3, 1) := by decide +kernel
theorem dX4_readUnit_34 : decode cX4_readUnit 34 = .ok (.ifCond .ne 19, 3) := by decide +kernel
theorem dX4_readUnit_37 : decode cX4_readUnit 37 = .ok (.aload_n 0, 1) := by decide +kernel
theorem dX4_readUnit_38 : decode cX4_readUnit 38 = .ok (.getfield 28, 3) := by decide +kernel
theorem dX4_readUnit_41 : decode cX4_readUnit 41 = .ok (.invokestatic 232, 3) := by decide +kernel
theorem dX4_readUnit_44 : decode cX4_readUnit 44 = .ok (.ifCond .ne 9, 3) := by decide +kernel
theorem dX4_readUnit_53 : decode cX4_readUnit 53 = .ok (.aload_n 0, 1) := by decide +kernel
theorem dX4_readUnit_54 : decode cX4_readUnit 54 = .ok (.getfield 44, 3) := by decide +kernel
theorem dX4_readUnit_57 : decode cX4_readUnit 57 = .ok (.getfield 89, 3) := by decide +kernel
theorem dX4_readUnit_60 : decode cX4_readUnit 60 = .ok (.getfield 235, 3) := by decide +kernel
theorem dX4_readUnit_63 : decode cX4_readUnit 63 = .ok (.bipush 60, 2) := by decide +kernel
theorem dX4_readUnit_65 : decode cX4_readUnit 65 = .ok (.if_icmp .ge 13, 3) := by decide +kernel
theorem dX4_readUnit_78 : decode cX4_readUnit 78 = .ok (.aload_n 0, 1) := by decide +kernel
theorem dX4_readUnit_79 : decode cX4_readUnit 79 = .ok (.iconst 2, 1) := by decide +kernel
theorem dX4_readUnit_80 : decode cX4_readUnit 80 = .ok (.invokevirtual 124, 3) := by decide +kernel
theorem dX4_readUnit_83 : decode cX4_readUnit 83 = .ok (.ireturn, 1) := by decide +kernel
theorem dX4_readUnit_68 : decode cX4_readUnit 68 = .ok (.iload_n 3, 1) := by decide +kernel
theorem dX4_readUnit_69 : decode cX4_readUnit 69 = .ok (.ifCond .eq 15, 3) := by decide +kernel
theorem dX4_readUnit_84 : decode cX4_readUnit 84 = .ok (.aload_n 0, 1) := by decide +kernel
theorem dX4_readUnit_85 : decode cX4_readUnit 85 = .ok (.getfield 44, 3) := by decide +kernel
theorem dX4_readUnit_88 : decode cX4_readUnit 88 = .ok (.getfield 89, 3) := by decide +kernel
theorem dX4_readUnit_91 : decode cX4_readUnit 91 = .ok (.dup, 1) := by decide +kernel
theorem dX4_readUnit_92 : decode cX4_readUnit 92 = .ok (.getfield 235, 3) := by decide +kernel
theorem dX4_readUnit_95 : decode cX4_readUnit 95 = .ok (.iconst 1, 1) := by decide +kernel
theorem dX4_readUnit_96 : decode cX4_readUnit 96 = .ok (.iadd, 1) := by decide +kernel
theorem dX4_readUnit_97 : decode cX4_readUnit 97 = .ok (.putfield 235, 3) := by decide +kernel
theorem dX4_readUnit_100 : decode cX4_readUnit 100 = .ok (.iload_n 2, 1) := by decide +kernel
theorem dX4_readUnit_101 : decode cX4_readUnit 101 = .ok (.ifCond .eq 14, 3) := by decide +kernel
theorem dX4_readUnit_115 : decode cX4_readUnit 115 = .ok (.aload_n 0, 1) := by decide +kernel
theorem dX4_readUnit_116 : decode cX4_readUnit 116 = .ok (.getfield 28, 3) := by decide +kernel
theorem dX4_readUnit_119 : decode cX4_readUnit 119 = .ok (.istore 4, 2) := by decide +kernel
theorem dX4_readUnit_121 : decode cX4_readUnit 121 = .ok (.iload_n 3, 1) := by decide +kernel
theorem dX4_readUnit_122 : decode cX4_readUnit 122 = .ok (.ifCond .ne 14, 3) := by decide +kernel
theorem dX4_readUnit_125 : decode cX4_readUnit 125 = .ok (.aload_n 0, 1) := by decide +kernel
theorem dX4_readUnit_126 : decode cX4_readUnit 126 = .ok (.iload 4, 2) := by decide +kernel
theorem dX4_readUnit_128 : decode cX4_readUnit 128 = .ok (.invokevirtual 214, 3) := by decide +kernel
theorem dX4_readUnit_131 : decode cX4_readUnit 131 = .ok (.ifCond .ne 5, 3) := by decide +kernel
theorem dX4_readUnit_136 : decode cX4_readUnit 136 = .ok (.aload_n 0, 1) := by decide +kernel
theorem dX4_readUnit_137 : decode cX4_readUnit 137 = .ok (.invokevirtual 78, 3) := by decide +kernel
theorem dX4_readUnit_140 : decode cX4_readUnit 140 = .ok (.iload_n 3, 1) := by decide +kernel
theorem dX4_readUnit_141 : decode cX4_readUnit 141 = .ok (.ifCond .eq 22, 3) := by decide +kernel
theorem dX4_readUnit_163 : decode cX4_readUnit 163 = .ok (.iconst 1, 1) := by decide +kernel
theorem dX4_readUnit_164 : decode cX4_readUnit 164 = .ok (.goto 4, 3) := by decide +kernel
theorem dX4_readUnit_168 : decode cX4_readUnit 168 = .ok (.ireturn, 1) := by decide +kernel
theorem dX4_readUnit_134 : decode cX4_readUnit 134 = .ok (.iconst 0, 1) := by decide +kernel
theorem dX4_readUnit_135 : decode cX4_readUnit 135 = .ok (.ireturn, 1) := by decide +kernel
theorem dX4_readUnit_47 : decode cX4_readUnit 47 = .ok (.aload_n 0, 1) := by decide +kernel
theorem dX4_readUnit_48 : decode cX4_readUnit 48 = .ok (.iconst 2, 1) := by decide +kernel
theorem dX4_readUnit_49 : decode cX4_readUnit 49 = .ok (.invokevirtual 124, 3) := by decide +kernel
theorem dX4_readUnit_52 : decode cX4_readUnit 52 = .ok (.ireturn, 1) := by decide +kernel
theorem dX4_readUnit_23 : decode cX4_readUnit 23 = .ok (.iconst 1, 1) := by decide +kernel
theorem dX4_readUnit_24 : decode cX4_readUnit 24 = .ok (.goto 4, 3) := by decide +kernel
theorem dX4_readUnit_72 : decode cX4_readUnit 72 = .ok (.iload_n 1, 1) := by decide +kernel
theorem dX4_readUnit_73 : decode cX4_readUnit 73 = .ok (.bipush 6, 2) := by decide +kernel
theorem dX4_readUnit_75 : decode cX4_readUnit 75 = .ok (.if_icmp .le 9, 3) := by decide +kernel
theorem dX4_readUnit_8 : decode cX4_readUnit 8 = .ok (.iconst 1, 1) := by decide +kernel
theorem dX4_readUnit_9 : decode cX4_readUnit 9 = .ok (.goto 4, 3) := by decide +kernel
theorem dX4_readUnit_104 : decode cX4_readUnit 104 = .ok (.sipush 1000, 3) := by decide +kernel
theorem dX4_readUnit_107 : decode cX4_readUnit 107 = .ok (.aload_n 0, 1) := by decide +kernel
theorem dX4_readUnit_108 : decode cX4_readUnit 108 = .ok (.getfield 34, 3) := by decide +kernel
theorem dX4_readUnit_111 : decode cX4_readUnit 111 = .ok (.iadd, 1) := by decide +kernel
theorem dX4_readUnit_112 : decode cX4_readUnit 112 = .ok (.goto 7, 3) := by decide +kernel
theorem dX4_readTerm_5 : decode cX4_readTerm 5 = .ok (.istore_n 2, 1) := by decide +kernel
theorem dX4_readTerm_6 : decode cX4_readTerm 6 = .ok (.iconst 0, 1) := by decide +kernel
theorem dX4_readTerm_7 : decode cX4_readTerm 7 = .ok (.istore_n 3, 1) := by decide +kernel
theorem dX4_readTerm_8 : decode cX4_readTerm 8 = .ok (.iload_n 3, 1) := by decide +kernel
theorem dX4_readTerm_9 : decode cX4_readTerm 9 = .ok (.bipush 60, 2) := by decide +kernel
theorem dX4_readTerm_11 : decode cX4_readTerm 11 = .ok (.if_icmp .ge 64, 3) := by decide +kernel
theorem dX4_readTerm_75 : decode cX4_readTerm 75 = .ok (.iload_n 2, 1) := by decide +kernel
theorem dX4_readTerm_76 : decode cX4_readTerm 76 = .ok (.ireturn, 1) := by decide +kernel
theorem dX4_readTerm_14 : decode cX4_readTerm 14 = .ok (.iload_n 2, 1) := by decide +kernel
theorem dX4_readTerm_15 : decode cX4_readTerm 15 = .ok (.ifCond .eq 60, 3) := by decide +kernel
theorem dX4_readTerm_18 : decode cX4_readTerm 18 = .ok (.aload_n 0, 1) := by decide +kernel
theorem dX4_readTerm_19 : decode cX4_readTerm 19 = .ok (.getfield 28, 3) := by decide +kernel
theorem dX4_readTerm_22 : decode cX4_readTerm 22 = .ok (.bipush 42, 2) := by decide +kernel
theorem dX4_readTerm_24 : decode cX4_readTerm 24 = .ok (.if_icmp .eq 12, 3) := by decide +kernel
theorem dX4_readTerm_36 : decode cX4_readTerm 36 = .ok (.aload_n 0, 1) := by decide +kernel
theorem dX4_readTerm_37 : decode cX4_readTerm 37 = .ok (.getfield 28, 3) := by decide +kernel
theorem dX4_readTerm_40 : decode cX4_readTerm 40 = .ok (.istore 4, 2) := by decide +kernel
theorem dX4_readTerm_42 : decode cX4_readTerm 42 = .ok (.aload_n 0, 1) := by decide +kernel
theorem dX4_readTerm_43 : decode cX4_readTerm 43 = .ok (.invokevirtual 78, 3) := by decide +kernel
theorem dX4_readTerm_46 : decode cX4_readTerm 46 = .ok (.aload_n 0, 1) := by decide +kernel
theorem dX4_readTerm_47 : decode cX4_readTerm 47 = .ok (.iload_n 1, 1) := by decide +kernel
theorem dX4_readTerm_48 : decode cX4_readTerm 48 = .ok (.invokevirtual 229, 3) := by decide +kernel
theorem dX4_readTerm_51 : decode cX4_readTerm 51 = .ok (.ifCond .eq 16, 3) := by decide +kernel
theorem dX4_readTerm_54 : decode cX4_readTerm 54 = .ok (.aload_n 0, 1) := by decide +kernel
theorem dX4_readTerm_55 : decode cX4_readTerm 55 = .ok (.iload 4, 2) := by decide +kernel
theorem dX4_readTerm_57 : decode cX4_readTerm 57 = .ok (.invokevirtual 214, 3) := by decide +kernel
theorem dX4_readTerm_60 : decode cX4_readTerm 60 = .ok (.ifCond .eq 7, 3) := by decide +kernel
theorem dX4_readTerm_63 : decode cX4_readTerm 63 = .ok (.iconst 1, 1) := by decide +kernel
theorem dX4_readTerm_64 : decode cX4_readTerm 64 = .ok (.goto 4, 3) := by decide +kernel
theorem dX4_readTerm_68 : decode cX4_readTerm 68 = .ok (.istore_n 2, 1) := by decide +kernel
theorem dX4_readTerm_69 : decode cX4_readTerm 69 = .ok (.iinc 3 1, 3) := by decide +kernel
theorem dX4_readTerm_72 : decode cX4_readTerm 72 = .ok (.goto (-64), 3) := by decide +kernel
theorem dX4_readTerm_67 : decode cX4_readTerm 67 = .ok (.iconst 0, 1) := by decide +kernel
theorem dX4_readTerm_27 : decode cX4_readTerm 27 = .ok (.aload_n 0, 1) := by decide +kernel
theorem dX4_readTerm_28 : decode cX4_readTerm 28 = .ok (.getfield 28, 3) := by decide +kernel
theorem dX4_readTerm_31 : decode cX4_readTerm 31 = .ok (.bipush 47, 2) := by decide +kernel
theorem dX4_readTerm_33 : decode cX4_readTerm 33 = .ok (.if_icmp .ne 42, 3) := by decide +kernel
theorem dX4_readTerm_0 : decode cX4_readTerm 0 = .ok (.aload_n 0, 1) := by decide +kernel
theorem dX4_readTerm_1 : decode cX4_readTerm 1 = .ok (.iload_n 1, 1) := by decide +kernel
theorem dX4_readTerm_2 : decode cX4_readTerm 2 = .ok (.invokevirtual 229, 3) := by decide +kernel
theorem dX4_readSum_5 : decode cX4_readSum 5 = .ok (.istore_n 2, 1) := by decide +kernel
theorem dX4_readSum_6 : decode cX4_readSum 6 = .ok (.iconst 0, 1) := by decide +kernel
theorem dX4_readSum_7 : decode cX4_readSum 7 = .ok (.istore_n 3, 1) := by decide +kernel
theorem dX4_readSum_8 : decode cX4_readSum 8 = .ok (.iload_n 3, 1) := by decide +kernel
theorem dX4_readSum_9 : decode cX4_readSum 9 = .ok (.bipush 60, 2) := by decide +kernel
theorem dX4_readSum_11 : decode cX4_readSum 11 = .ok (.if_icmp .ge 64, 3) := by decide +kernel
theorem dX4_readSum_75 : decode cX4_readSum 75 = .ok (.iload_n 2, 1) := by decide +kernel
theorem dX4_readSum_76 : decode cX4_readSum 76 = .ok (.ireturn, 1) := by decide +kernel
theorem dX4_readSum_14 : decode cX4_readSum 14 = .ok (.iload_n 2, 1) := by decide +kernel
theorem dX4_readSum_15 : decode cX4_readSum 15 = .ok (.ifCond .eq 60, 3) := by decide +kernel
theorem dX4_readSum_18 : decode cX4_readSum 18 = .ok (.aload_n 0, 1) := by decide +kernel
theorem dX4_readSum_19 : decode cX4_readSum 19 = .ok (.getfield 28, 3) := by decide +kernel
theorem dX4_readSum_22 : decode cX4_readSum 22 = .ok (.bipush 43, 2) := by decide +kernel
theorem dX4_readSum_24 : decode cX4_readSum 24 = .ok (.if_icmp .eq 12, 3) := by decide +kernel
theorem dX4_readSum_36 : decode cX4_readSum 36 = .ok (.aload_n 0, 1) := by decide +kernel
theorem dX4_readSum_37 : decode cX4_readSum 37 = .ok (.getfield 28, 3) := by decide +kernel
theorem dX4_readSum_40 : decode cX4_readSum 40 = .ok (.istore 4, 2) := by decide +kernel
theorem dX4_readSum_42 : decode cX4_readSum 42 = .ok (.aload_n 0, 1) := by decide +kernel
theorem dX4_readSum_43 : decode cX4_readSum 43 = .ok (.invokevirtual 78, 3) := by decide +kernel
theorem dX4_readSum_46 : decode cX4_readSum 46 = .ok (.aload_n 0, 1) := by decide +kernel
theorem dX4_readSum_47 : decode cX4_readSum 47 = .ok (.iload_n 1, 1) := by decide +kernel
theorem dX4_readSum_48 : decode cX4_readSum 48 = .ok (.invokevirtual 226, 3) := by decide +kernel
theorem dX4_readSum_51 : decode cX4_readSum 51 = .ok (.ifCond .eq 16, 3) := by decide +kernel
theorem dX4_readSum_54 : decode cX4_readSum 54 = .ok (.aload_n 0, 1) := by decide +kernel
theorem dX4_readSum_55 : decode cX4_readSum 55 = .ok (.iload 4, 2) := by decide +kernel
theorem dX4_readSum_57 : decode cX4_readSum 57 = .ok (.invokevirtual 214, 3) := by decide +kernel
theorem dX4_readSum_60 : decode cX4_readSum 60 = .ok (.ifCond .eq 7, 3) := by decide +kernel
theorem dX4_readSum_63 : decode cX4_readSum 63 = .ok (.iconst 1, 1) := by decide +kernel
theorem dX4_readSum_64 : decode cX4_readSum 64 = .ok (.goto 4, 3) := by decide +kernel
theorem dX4_readSum_68 : decode cX4_readSum 68 = .ok (.istore_n 2, 1) := by decide +kernel
theorem dX4_readSum_69 : decode cX4_readSum 69 = .ok (.iinc 3 1, 3) := by decide +kernel
theorem dX4_readSum_72 : decode cX4_readSum 72 = .ok (.goto (-64), 3) := by decide +kernel
theorem dX4_readSum_67 : decode cX4_readSum 67 = .ok (.iconst 0, 1) := by decide +kernel
theorem dX4_readSum_27 : decode cX4_readSum 27 = .ok (.aload_n 0, 1) := by decide +kernel
theorem dX4_readSum_28 : decode cX4_readSum 28 = .ok (.getfield 28, 3) := by decide +kernel
theorem dX4_readSum_31 : decode cX4_readSum 31 = .ok (.bipush 45, 2) := by decide +kernel
theorem dX4_readSum_33 : decode cX4_readSum 33 = .ok (.if_icmp .ne 42, 3) := by decide +kernel
theorem dX4_readSum_0 : decode cX4_readSum 0 = .ok (.aload_n 0, 1) := by decide +kernel
theorem dX4_readSum_1 : decode cX4_readSum 1 = .ok (.iload_n 1, 1) := by decide +kernel
theorem dX4_readSum_2 : decode cX4_readSum 2 = .ok (.invokevirtual 226, 3) := by decide +kernel
theorem dX4_readRelation_0 : decode cX4_readRelation 0 = .ok (.aload_n 0, 1) := by decide +kernel
theorem dX4_readRelation_1 : decode cX4_readRelation 1 = .ok (.iload_n 1, 1) := by decide +kernel
theorem dX4_readRelation_2 : decode cX4_readRelation 2 = .ok (.invokevirtual 223, 3) := by decide +kernel
theorem dX4_readRelation_5 : decode cX4_readRelation 5 = .ok (.ifCond .ne 5, 3) := by decide +kernel
theorem dX4_readRelation_10 : decode cX4_readRelation 10 = .ok (.aload_n 0, 1) := by decide +kernel
theorem dX4_readRelation_11 : decode cX4_readRelation 11 = .ok (.getfield 28, 3) := by decide +kernel
theorem dX4_readRelation_14 : decode cX4_readRelation 14 = .ok (.istore_n 2, 1) := by decide +kernel
theorem dX4_readRelation_15 : decode cX4_readRelation 15 = .ok (.iload_n 2, 1) := by decide +kernel
theorem dX4_readRelation_16 : decode cX4_readRelation 16 = .ok (.bipush 60, 2) := by decide +kernel
theorem dX4_readRelation_18 : decode cX4_readRelation 18 = .ok (.if_icmp .eq 17, 3) := by decide +kernel
theorem dX4_readRelation_35 : decode cX4_readRelation 35 = .ok (.aload_n 0, 1) := by decide +kernel
theorem dX4_readRelation_36 : decode cX4_readRelation 36 = .ok (.invokevirtual 78, 3) := by decide +kernel
theorem dX4_readRelation_39 : decode cX4_readRelation 39 = .ok (.aload_n 0, 1) := by decide +kernel
theorem dX4_readRelation_40 : decode cX4_readRelation 40 = .ok (.iload_n 1, 1) := by decide +kernel
theorem dX4_readRelation_41 : decode cX4_readRelation 41 = .ok (.invokevirtual 223, 3) := by decide +kernel
theorem dX4_readRelation_44 : decode cX4_readRelation 44 = .ok (.ifCond .eq 15, 3) := by decide +kernel
theorem dX4_readRelation_47 : decode cX4_readRelation 47 = .ok (.aload_n 0, 1) := by decide +kernel
theorem dX4_readRelation_48 : decode cX4_readRelation 48 = .ok (.iload_n 2, 1) := by decide +kernel
theorem dX4_readRelation_49 : decode cX4_readRelation 49 = .ok (.invokevirtual 214, 3) := by decide +kernel
theorem dX4_readRelation_52 : decode cX4_readRelation 52 = .ok (.ifCond .eq 7, 3) := by decide +kernel
theorem dX4_readRelation_55 : decode cX4_readRelation 55 = .ok (.iconst 1, 1) := by decide +kernel
theorem dX4_readRelation_56 : decode cX4_readRelation 56 = .ok (.goto 4, 3) := by decide +kernel
theorem dX4_readRelation_60 : decode cX4_readRelation 60 = .ok (.ireturn, 1) := by decide +kernel
theorem dX4_readRelation_59 : decode cX4_readRelation 59 = .ok (.iconst 0, 1) := by decide +kernel
theorem dX4_readRelation_21 : decode cX4_readRelation 21 = .ok (.iload_n 2, 1) := by decide +kernel
theorem dX4_readRelation_22 : decode cX4_readRelation 22 = .ok (.bipush 62, 2) := by decide +kernel
theorem dX4_readRelation_24 : decode cX4_readRelation 24 = .ok (.if_icmp .eq 11, 3) := by decide +kernel
theorem dX4_readRelation_27 : decode cX4_readRelation 27 = .ok (.iload_n 2, 1) := by decide +kernel
theorem dX4_readRelation_28 : decode cX4_readRelation 28 = .ok (.bipush 61, 2) := by decide +kernel
theorem dX4_readRelation_30 : decode cX4_readRelation 30 = .ok (.if_icmp .eq 5, 3) := by decide +kernel
theorem dX4_readRelation_33 : decode cX4_readRelation 33 = .ok (.iconst 1, 1) := by decide +kernel
theorem dX4_readRelation_34 : decode cX4_readRelation 34 = .ok (.ireturn, 1) := by decide +kernel
theorem dX4_readRelation_8 : decode cX4_readRelation 8 = .ok (.iconst 0, 1) := by decide +kernel
theorem dX4_readRelation_9 : decode cX4_readRelation 9 = .ok (.ireturn, 1) := by decide +kernel
theorem dX4_readOne_0 : decode cX4_readOne 0 = .ok (.aload_n 0, 1) := by decide +kernel
theorem dX4_readOne_1 : decode cX4_readOne 1 = .ok (.getfield 28, 3) := by decide +kernel
theorem dX4_readOne_4 : decode cX4_readOne 4 = .ok (.sipush 277, 3) := by decide +kernel
theorem dX4_readOne_7 : decode cX4_readOne 7 = .ok (.if_icmp .eq 9, 3) := by decide +kernel
theorem dX4_readOne_16 : decode cX4_readOne 16 = .ok (.iload_n 1, 1) := by decide +kernel
theorem dX4_readOne_17 : decode cX4_readOne 17 = .ok (.bipush 6, 2) := by decide +kernel
theorem dX4_readOne_19 : decode cX4_readOne 19 = .ok (.if_icmp .le 9, 3) := by decide +kernel
theorem dX4_readOne_22 : decode cX4_readOne 22 = .ok (.aload_n 0, 1) := by decide +kernel
theorem dX4_readOne_23 : decode cX4_readOne 23 = .ok (.iconst 2, 1) := by decide +kernel
theorem dX4_readOne_24 : decode cX4_readOne 24 = .ok (.invokevirtual 124, 3) := by decide +kernel
theorem dX4_readOne_27 : decode cX4_readOne 27 = .ok (.ireturn, 1) := by decide +kernel
theorem dX4_readOne_10 : decode cX4_readOne 10 = .ok (.aload_n 0, 1) := by decide +kernel
theorem dX4_readOne_11 : decode cX4_readOne 11 = .ok (.iload_n 1, 1) := by decide +kernel
theorem dX4_readOne_12 : decode cX4_readOne 12 = .ok (.invokevirtual 220, 3) := by decide +kernel
theorem dX4_readOne_15 : decode cX4_readOne 15 = .ok (.ireturn, 1) := by decide +kernel
theorem dX4_readAll_5 : decode cX4_readAll 5 = .ok (.istore_n 2, 1) := by decide +kernel
theorem dX4_readAll_6 : decode cX4_readAll 6 = .ok (.iconst 0, 1) := by decide +kernel
theorem dX4_readAll_7 : decode cX4_readAll 7 = .ok (.istore_n 3, 1) := by decide +kernel
theorem dX4_readAll_8 : decode cX4_readAll 8 = .ok (.iload_n 3, 1) := by decide +kernel
theorem dX4_readAll_9 : decode cX4_readAll 9 = .ok (.bipush 60, 2) := by decide +kernel
theorem dX4_readAll_11 : decode cX4_readAll 11 = .ok (.if_icmp .ge 51, 3) := by decide +kernel
theorem dX4_readAll_62 : decode cX4_readAll 62 = .ok (.iload_n 2, 1) := by decide +kernel
theorem dX4_readAll_63 : decode cX4_readAll 63 = .ok (.ireturn, 1) := by decide +kernel
theorem dX4_readAll_14 : decode cX4_readAll 14 = .ok (.iload_n 2, 1) := by decide +kernel
theorem dX4_readAll_15 : decode cX4_readAll 15 = .ok (.ifCond .eq 47, 3) := by decide +kernel
theorem dX4_readAll_18 : decode cX4_readAll 18 = .ok (.aload_n 0, 1) := by decide +kernel
theorem dX4_readAll_19 : decode cX4_readAll 19 = .ok (.getfield 28, 3) := by decide +kernel
theorem dX4_readAll_22 : decode cX4_readAll 22 = .ok (.sipush 276, 3) := by decide +kernel
theorem dX4_readAll_25 : decode cX4_readAll 25 = .ok (.if_icmp .ne 37, 3) := by decide +kernel
theorem dX4_readAll_28 : decode cX4_readAll 28 = .ok (.aload_n 0, 1) := by decide +kernel
theorem dX4_readAll_29 : decode cX4_readAll 29 = .ok (.invokevirtual 78, 3) := by decide +kernel
theorem dX4_readAll_32 : decode cX4_readAll 32 = .ok (.aload_n 0, 1) := by decide +kernel
theorem dX4_readAll_33 : decode cX4_readAll 33 = .ok (.iload_n 1, 1) := by decide +kernel
theorem dX4_readAll_34 : decode cX4_readAll 34 = .ok (.invokevirtual 217, 3) := by decide +kernel
theorem dX4_readAll_37 : decode cX4_readAll 37 = .ok (.ifCond .eq 17, 3) := by decide +kernel
theorem dX4_readAll_40 : decode cX4_readAll 40 = .ok (.aload_n 0, 1) := by decide +kernel
theorem dX4_readAll_41 : decode cX4_readAll 41 = .ok (.sipush 276, 3) := by decide +kernel
theorem dX4_readAll_44 : decode cX4_readAll 44 = .ok (.invokevirtual 214, 3) := by decide +kernel
theorem dX4_readAll_47 : decode cX4_readAll 47 = .ok (.ifCond .eq 7, 3) := by decide +kernel
theorem dX4_readAll_50 : decode cX4_readAll 50 = .ok (.iconst 1, 1) := by decide +kernel
theorem dX4_readAll_51 : decode cX4_readAll 51 = .ok (.goto 4, 3) := by decide +kernel
theorem dX4_readAll_55 : decode cX4_readAll 55 = .ok (.istore_n 2, 1) := by decide +kernel
theorem dX4_readAll_56 : decode cX4_readAll 56 = .ok (.iinc 3 1, 3) := by decide +kernel
theorem dX4_readAll_59 : decode cX4_readAll 59 = .ok (.goto (-51), 3) := by decide +kernel
theorem dX4_readAll_54 : decode cX4_readAll 54 = .ok (.iconst 0, 1) := by decide +kernel
theorem dX4_readAll_0 : decode cX4_readAll 0 = .ok (.aload_n 0, 1) := by decide +kernel
theorem dX4_readAll_1 : decode cX4_readAll 1 = .ok (.iload_n 1, 1) := by decide +kernel
theorem dX4_readAll_2 : decode cX4_readAll 2 = .ok (.invokevirtual 217, 3) := by decide +kernel
theorem dX4_readAny_5 : decode cX4_readAny 5 = .ok (.istore_n 2, 1) := by decide +kernel
theorem dX4_readAny_6 : decode cX4_readAny 6 = .ok (.iconst 0, 1) := by decide +kernel
theorem dX4_readAny_7 : decode cX4_readAny 7 = .ok (.istore_n 3, 1) := by decide +kernel
theorem dX4_readAny_8 : decode cX4_readAny 8 = .ok (.iload_n 3, 1) := by decide +kernel
theorem dX4_readAny_9 : decode cX4_readAny 9 = .ok (.bipush 60, 2) := by decide +kernel
theorem dX4_readAny_11 : decode cX4_readAny 11 = .ok (.if_icmp .ge 51, 3) := by decide +kernel
theorem dX4_readAny_62 : decode cX4_readAny 62 = .ok (.iload_n 2, 1) := by decide +kernel
theorem dX4_readAny_63 : decode cX4_readAny 63 = .ok (.ireturn, 1) := by decide +kernel
theorem dX4_readAny_14 : decode cX4_readAny 14 = .ok (.iload_n 2, 1) := by decide +kernel
theorem dX4_readAny_15 : decode cX4_readAny 15 = .ok (.ifCond .eq 47, 3) := by decide +kernel
theorem dX4_readAny_18 : decode cX4_readAny 18 = .ok (.aload_n 0, 1) := by decide +kernel
theorem dX4_readAny_19 : decode cX4_readAny 19 = .ok (.getfield 28, 3) := by decide +kernel
theorem dX4_readAny_22 : decode cX4_readAny 22 = .ok (.sipush 275, 3) := by decide +kernel
theorem dX4_readAny_25 : decode cX4_readAny 25 = .ok (.if_icmp .ne 37, 3) := by decide +kernel
theorem dX4_readAny_28 : decode cX4_readAny 28 = .ok (.aload_n 0, 1) := by decide +kernel
theorem dX4_readAny_29 : decode cX4_readAny 29 = .ok (.invokevirtual 78, 3) := by decide +kernel
theorem dX4_readAny_32 : decode cX4_readAny 32 = .ok (.aload_n 0, 1) := by decide +kernel
theorem dX4_readAny_33 : decode cX4_readAny 33 = .ok (.iload_n 1, 1) := by decide +kernel
theorem dX4_readAny_34 : decode cX4_readAny 34 = .ok (.invokevirtual 211, 3) := by decide +kernel
theorem dX4_readAny_37 : decode cX4_readAny 37 = .ok (.ifCond .eq 17, 3) := by decide +kernel
theorem dX4_readAny_40 : decode cX4_readAny 40 = .ok (.aload_n 0, 1) := by decide +kernel
theorem dX4_readAny_41 : decode cX4_readAny 41 = .ok (.sipush 275, 3) := by decide +kernel
theorem dX4_readAny_44 : decode cX4_readAny 44 = .ok (.invokevirtual 214, 3) := by decide +kernel
theorem dX4_readAny_47 : decode cX4_readAny 47 = .ok (.ifCond .eq 7, 3) := by decide +kernel
theorem dX4_readAny_50 : decode cX4_readAny 50 = .ok (.iconst 1, 1) := by decide +kernel
theorem dX4_readAny_51 : decode cX4_readAny 51 = .ok (.goto 4, 3) := by decide +kernel
theorem dX4_readAny_55 : decode cX4_readAny 55 = .ok (.istore_n 2, 1) := by decide +kernel
theorem dX4_readAny_56 : decode cX4_readAny 56 = .ok (.iinc 3 1, 3) := by decide +kernel
theorem dX4_readAny_59 : decode cX4_readAny 59 = .ok (.goto (-51), 3) := by decide +kernel
theorem dX4_readAny_54 : decode cX4_readAny 54 = .ok (.iconst 0, 1) := by decide +kernel
theorem dX4_readAny_0 : decode cX4_readAny 0 = .ok (.aload_n 0, 1) := by decide +kernel
theorem dX4_readAny_1 : decode cX4_readAny 1 = .ok (.iload_n 1, 1) := by decide +kernel
theorem dX4_readAny_2 : decode cX4_readAny 2 = .ok (.invokevirtual 211, 3) := by decide +kernel
theorem dX4_readUnit_144 : decode cX4_readUnit 144 = .ok (.aload_n 0, 1) := by decide +kernel
theorem dX4_readUnit_145 : decode cX4_readUnit 145 = .ok (.iload_n 1, 1) := by decide +kernel
theorem dX4_readUnit_146 : decode cX4_readUnit 146 = .ok (.iconst 1, 1) := by decide +kernel
theorem dX4_readUnit_147 : decode cX4_readUnit 147 = .ok (.iadd, 1) := by decide +kernel
theorem dX4_readUnit_148 : decode cX4_readUnit 148 = .ok (.invokevirtual 145, 3) := by decide +kernel
theorem dX4_readUnit_151 : decode cX4_readUnit 151 = .ok (.ifCond .eq 16, 3) := by decide +kernel
theorem dX4_readUnit_154 : decode cX4_readUnit 154 = .ok (.aload_n 0, 1) := by decide +kernel
theorem dX4_readUnit_155 : decode cX4_readUnit 155 = .ok (.bipush 41, 2) := by decide +kernel
theorem dX4_readUnit_157 : decode cX4_readUnit 157 = .ok (.invokevirtual 142, 3) := by decide +kernel
theorem dX4_readUnit_160 : decode cX4_readUnit 160 = .ok (.ifCond .eq 7, 3) := by decide +kernel
theorem dX4_readUnit_167 : decode cX4_readUnit 167 = .ok (.iconst 0, 1) := by decide +kernel
theorem dX4_readOne_28 : decode cX4_readOne 28 = .ok (.aload_n 0, 1) := by decide +kernel
theorem dX4_readOne_29 : decode cX4_readOne 29 = .ok (.invokevirtual 78, 3) := by decide +kernel
theorem dX4_readOne_32 : decode cX4_readOne 32 = .ok (.aload_n 0, 1) := by decide +kernel
theorem dX4_readOne_33 : decode cX4_readOne 33 = .ok (.iload_n 1, 1) := by decide +kernel
theorem dX4_readOne_34 : decode cX4_readOne 34 = .ok (.iconst 1, 1) := by decide +kernel
theorem dX4_readOne_35 : decode cX4_readOne 35 = .ok (.iadd, 1) := by decide +kernel
theorem dX4_readOne_36 : decode cX4_readOne 36 = .ok (.invokevirtual 217, 3) := by decide +kernel
theorem dX4_readOne_39 : decode cX4_readOne 39 = .ok (.ifCond .eq 17, 3) := by decide +kernel
theorem dX4_readOne_42 : decode cX4_readOne 42 = .ok (.aload_n 0, 1) := by decide +kernel
theorem dX4_readOne_43 : decode cX4_readOne 43 = .ok (.sipush 277, 3) := by decide +kernel
theorem dX4_readOne_46 : decode cX4_readOne 46 = .ok (.invokevirtual 214, 3) := by decide +kernel
theorem dX4_readOne_49 : decode cX4_readOne 49 = .ok (.ifCond .eq 7, 3) := by decide +kernel
theorem dX4_readOne_52 : decode cX4_readOne 52 = .ok (.iconst 1, 1) := by decide +kernel
theorem dX4_readOne_53 : decode cX4_readOne 53 = .ok (.goto 4, 3) := by decide +kernel
theorem dX4_readOne_57 : decode cX4_readOne 57 = .ok (.ireturn, 1) := by decide +kernel
theorem dX4_readOne_56 : decode cX4_readOne 56 = .ok (.iconst 0, 1) := by decide +kernel
