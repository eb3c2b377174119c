theorem dX8_isMet_0 : decode cX8_isMet 0 = .ok (.aload_n 0, 1) := by decide +kernel
theorem dX8_isMet_1 : decode cX8_isMet 1 = .ok (.iload_n 2, 1) := by decide +kernel
theorem dX8_isMet_2 : decode cX8_isMet 2 = .ok (.iload_n 3, 1) := by decide +kernel
theorem dX8_isMet_3 : decode cX8_isMet 3 = .ok (.iload 4, 2) := by decide +kernel
theorem dX8_isMet_5 : decode cX8_isMet 5 = .ok (.iconst 0, 1) := by decide +kernel
theorem dX8_isMet_6 : decode cX8_isMet 6 = .ok (.invokevirtual 215, 3) := by decide +kernel
theorem dX8_isMet_9 : decode cX8_isMet 9 = .ok (.aload_n 0, 1) := by decide +kernel
theorem dX8_isMet_10 : decode cX8_isMet 10 = .ok (.getfield 30, 3) := by decide +kernel
theorem dX8_isMet_13 : decode cX8_isMet 13 = .ok (.aload_n 0, 1) := by decide +kernel
theorem dX8_isMet_14 : decode cX8_isMet 14 = .ok (.getfield 60, 3) := by decide +kernel
theorem dX8_isMet_17 : decode cX8_isMet 17 = .ok (.invokevirtual 219, 3) := by decide +kernel
theorem dX8_isMet_20 : decode cX8_isMet 20 = .ok (.aload_n 0, 1) := by decide +kernel
theorem dX8_isMet_21 : decode cX8_isMet 21 = .ok (.getfield 60, 3) := by decide +kernel
theorem dX8_isMet_24 : decode cX8_isMet 24 = .ok (.getfield 247, 3) := by decide +kernel
theorem dX8_isMet_27 : decode cX8_isMet 27 = .ok (.iload_n 1, 1) := by decide +kernel
theorem dX8_isMet_28 : decode cX8_isMet 28 = .ok (.iaload, 1) := by decide +kernel
theorem dX8_isMet_29 : decode cX8_isMet 29 = .ok (.if_icmp .ge 5, 3) := by decide +kernel
theorem dX8_isMet_34 : decode cX8_isMet 34 = .ok (.aload_n 0, 1) := by decide +kernel
theorem dX8_isMet_35 : decode cX8_isMet 35 = .ok (.getfield 30, 3) := by decide +kernel
theorem dX8_isMet_38 : decode cX8_isMet 38 = .ok (.aload_n 0, 1) := by decide +kernel
theorem dX8_isMet_39 : decode cX8_isMet 39 = .ok (.getfield 60, 3) := by decide +kernel
theorem dX8_isMet_42 : decode cX8_isMet 42 = .ok (.invokevirtual 237, 3) := by decide +kernel
theorem dX8_isMet_45 : decode cX8_isMet 45 = .ok (.istore 5, 2) := by decide +kernel
theorem dX8_isMet_47 : decode cX8_isMet 47 = .ok (.iload 5, 2) := by decide +kernel
theorem dX8_isMet_49 : decode cX8_isMet 49 = .ok (.iconst (-1), 1) := by decide +kernel
theorem dX8_isMet_50 : decode cX8_isMet 50 = .ok (.if_icmp .eq 21, 3) := by decide +kernel
theorem dX8_isMet_71 : decode cX8_isMet 71 = .ok (.iconst 0, 1) := by decide +kernel
theorem dX8_isMet_72 : decode cX8_isMet 72 = .ok (.ireturn, 1) := by decide +kernel
theorem dX8_isMet_53 : decode cX8_isMet 53 = .ok (.iload 5, 2) := by decide +kernel
theorem dX8_isMet_55 : decode cX8_isMet 55 = .ok (.aload_n 0, 1) := by decide +kernel
theorem dX8_isMet_56 : decode cX8_isMet 56 = .ok (.getfield 60, 3) := by decide +kernel
theorem dX8_isMet_59 : decode cX8_isMet 59 = .ok (.getfield 250, 3) := by decide +kernel
theorem dX8_isMet_62 : decode cX8_isMet 62 = .ok (.iload_n 1, 1) := by decide +kernel
theorem dX8_isMet_63 : decode cX8_isMet 63 = .ok (.iaload, 1) := by decide +kernel
theorem dX8_isMet_64 : decode cX8_isMet 64 = .ok (.if_icmp .gt 7, 3) := by decide +kernel
theorem dX8_isMet_67 : decode cX8_isMet 67 = .ok (.iconst 1, 1) := by decide +kernel
theorem dX8_isMet_68 : decode cX8_isMet 68 = .ok (.goto 4, 3) := by decide +kernel
theorem dX8_isMet_32 : decode cX8_isMet 32 = .ok (.iconst 0, 1) := by decide +kernel
theorem dX8_isMet_33 : decode cX8_isMet 33 = .ok (.ireturn, 1) := by decide +kernel
theorem dX8_met_0 : decode cX8_met 0 = .ok (.aload_n 0, 1) := by decide +kernel
theorem dX8_met_1 : decode cX8_met 1 = .ok (.getfield 60, 3) := by decide +kernel
theorem dX8_met_4 : decode cX8_met 4 = .ok (.iconst 4, 1) := by decide +kernel
theorem dX8_met_5 : decode cX8_met 5 = .ok (.iload_n 1, 1) := by decide +kernel
theorem dX8_met_6 : decode cX8_met 6 = .ok (.invokevirtual 104, 3) := by decide +kernel
theorem dX8_met_9 : decode cX8_met 9 = .ok (.ifCond .eq 14, 3) := by decide +kernel
theorem dX8_met_12 : decode cX8_met 12 = .ok (.aload_n 0, 1) := by decide +kernel
theorem dX8_met_13 : decode cX8_met 13 = .ok (.iload_n 2, 1) := by decide +kernel
theorem dX8_met_14 : decode cX8_met 14 = .ok (.iload_n 3, 1) := by decide +kernel
theorem dX8_met_15 : decode cX8_met 15 = .ok (.iload 4, 2) := by decide +kernel
theorem dX8_met_17 : decode cX8_met 17 = .ok (.invokevirtual 208, 3) := by decide +kernel
theorem dX8_met_20 : decode cX8_met 20 = .ok (.ifCond .ne 5, 3) := by decide +kernel
theorem dX8_met_25 : decode cX8_met 25 = .ok (.aload_n 0, 1) := by decide +kernel
theorem dX8_met_26 : decode cX8_met 26 = .ok (.iload_n 1, 1) := by decide +kernel
theorem dX8_met_27 : decode cX8_met 27 = .ok (.iload_n 2, 1) := by decide +kernel
theorem dX8_met_28 : decode cX8_met 28 = .ok (.iload_n 3, 1) := by decide +kernel
theorem dX8_met_29 : decode cX8_met 29 = .ok (.iload 4, 2) := by decide +kernel
theorem dX8_met_31 : decode cX8_met 31 = .ok (.invokevirtual 240, 3) := by decide +kernel
theorem dX8_met_34 : decode cX8_met 34 = .ok (.ifCond .eq 7, 3) := by decide +kernel
theorem dX8_met_37 : decode cX8_met 37 = .ok (.iconst 1, 1) := by decide +kernel
theorem dX8_met_38 : decode cX8_met 38 = .ok (.goto 4, 3) := by decide +kernel
theorem dX8_met_42 : decode cX8_met 42 = .ok (.ireturn, 1) := by decide +kernel
theorem dX8_met_41 : decode cX8_met 41 = .ok (.iconst 0, 1) := by decide +kernel
theorem dX8_met_23 : decode cX8_met 23 = .ok (.iconst (-1), 1) := by decide +kernel
theorem dX8_met_24 : decode cX8_met 24 = .ok (.ireturn, 1) := by decide +kernel
theorem dX8_meets_0 : decode cX8_meets 0 = .ok (.aload_n 0, 1) := by decide +kernel
theorem dX8_meets_1 : decode cX8_meets 1 = .ok (.getfield 60, 3) := by decide +kernel
theorem dX8_meets_4 : decode cX8_meets 4 = .ok (.iconst 4, 1) := by decide +kernel
theorem dX8_meets_5 : decode cX8_meets 5 = .ok (.iload_n 1, 1) := by decide +kernel
theorem dX8_meets_6 : decode cX8_meets 6 = .ok (.invokevirtual 104, 3) := by decide +kernel
theorem dX8_meets_9 : decode cX8_meets 9 = .ok (.ifCond .eq 12, 3) := by decide +kernel
theorem dX8_meets_12 : decode cX8_meets 12 = .ok (.aload_n 0, 1) := by decide +kernel
theorem dX8_meets_13 : decode cX8_meets 13 = .ok (.iload_n 2, 1) := by decide +kernel
theorem dX8_meets_14 : decode cX8_meets 14 = .ok (.iload_n 3, 1) := by decide +kernel
theorem dX8_meets_15 : decode cX8_meets 15 = .ok (.invokevirtual 244, 3) := by decide +kernel
theorem dX8_meets_18 : decode cX8_meets 18 = .ok (.ifCond .ne 5, 3) := by decide +kernel
theorem dX8_meets_23 : decode cX8_meets 23 = .ok (.iconst 0, 1) := by decide +kernel
theorem dX8_meets_24 : decode cX8_meets 24 = .ok (.istore 4, 2) := by decide +kernel
theorem dX8_meets_26 : decode cX8_meets 26 = .ok (.iconst 0, 1) := by decide +kernel
theorem dX8_meets_27 : decode cX8_meets 27 = .ok (.istore 5, 2) := by decide +kernel
theorem dX8_meets_29 : decode cX8_meets 29 = .ok (.iload 5, 2) := by decide +kernel
theorem dX8_meets_31 : decode cX8_meets 31 = .ok (.aload_n 0, 1) := by decide +kernel
theorem dX8_meets_32 : decode cX8_meets 32 = .ok (.getfield 60, 3) := by decide +kernel
theorem dX8_meets_35 : decode cX8_meets 35 = .ok (.getfield 96, 3) := by decide +kernel
theorem dX8_meets_38 : decode cX8_meets 38 = .ok (.iconst 0, 1) := by decide +kernel
theorem dX8_meets_39 : decode cX8_meets 39 = .ok (.iaload, 1) := by decide +kernel
theorem dX8_meets_40 : decode cX8_meets 40 = .ok (.if_icmp .ge 34, 3) := by decide +kernel
theorem dX8_meets_74 : decode cX8_meets 74 = .ok (.iload 4, 2) := by decide +kernel
theorem dX8_meets_76 : decode cX8_meets 76 = .ok (.ireturn, 1) := by decide +kernel
theorem dX8_meets_43 : decode cX8_meets 43 = .ok (.iload 4, 2) := by decide +kernel
theorem dX8_meets_45 : decode cX8_meets 45 = .ok (.aload_n 0, 1) := by decide +kernel
theorem dX8_meets_46 : decode cX8_meets 46 = .ok (.iload_n 1, 1) := by decide +kernel
theorem dX8_meets_47 : decode cX8_meets 47 = .ok (.iload 5, 2) := by decide +kernel
theorem dX8_meets_49 : decode cX8_meets 49 = .ok (.iload_n 2, 1) := by decide +kernel
theorem dX8_meets_50 : decode cX8_meets 50 = .ok (.iload_n 3, 1) := by decide +kernel
theorem dX8_meets_51 : decode cX8_meets 51 = .ok (.invokevirtual 240, 3) := by decide +kernel
theorem dX8_meets_54 : decode cX8_meets 54 = .ok (.ifCond .eq 10, 3) := by decide +kernel
theorem dX8_meets_57 : decode cX8_meets 57 = .ok (.iconst 1, 1) := by decide +kernel
theorem dX8_meets_58 : decode cX8_meets 58 = .ok (.iload 5, 2) := by decide +kernel
theorem dX8_meets_60 : decode cX8_meets 60 = .ok (.ishl, 1) := by decide +kernel
theorem dX8_meets_61 : decode cX8_meets 61 = .ok (.goto 4, 3) := by decide +kernel
theorem dX8_meets_65 : decode cX8_meets 65 = .ok (.ior, 1) := by decide +kernel
theorem dX8_meets_66 : decode cX8_meets 66 = .ok (.istore 4, 2) := by decide +kernel
theorem dX8_meets_68 : decode cX8_meets 68 = .ok (.iinc 5 1, 3) := by decide +kernel
theorem dX8_meets_71 : decode cX8_meets 71 = .ok (.goto (-42), 3) := by decide +kernel
theorem dX8_meets_64 : decode cX8_meets 64 = .ok (.iconst 0, 1) := by decide +kernel
theorem dX8_meets_21 : decode cX8_meets 21 = .ok (.iconst (-1), 1) := by decide +kernel
theorem dX8_meets_22 : decode cX8_meets 22 = .ok (.ireturn, 1) := by decide +kernel
theorem dX8_greatestDivisor_0 : decode cX8_greatestDivisor 0 = .ok (.iload_n 1, 1) := by decide +kernel
theorem dX8_greatestDivisor_1 : decode cX8_greatestDivisor 1 = .ok (.istore_n 2, 1) := by decide +kernel
theorem dX8_greatestDivisor_2 : decode cX8_greatestDivisor 2 = .ok (.iload_n 2, 1) := by decide +kernel
theorem dX8_greatestDivisor_3 : decode cX8_greatestDivisor 3 = .ok (.iconst 1, 1) := by decide +kernel
theorem dX8_greatestDivisor_4 : decode cX8_greatestDivisor 4 = .ok (.if_icmp .le 23, 3) := by decide +kernel
theorem dX8_greatestDivisor_27 : decode cX8_greatestDivisor 27 = .ok (.iconst 1, 1) := by decide +kernel
theorem dX8_greatestDivisor_28 : decode cX8_greatestDivisor 28 = .ok (.ireturn, 1) := by decide +kernel
theorem dX8_greatestDivisor_7 : decode cX8_greatestDivisor 7 = .ok (.iload_n 0, 1) := by decide +kernel
theorem dX8_greatestDivisor_8 : decode cX8_greatestDivisor 8 = .ok (.iload_n 2, 1) := by decide +kernel
theorem dX8_greatestDivisor_9 : decode cX8_greatestDivisor 9 = .ok (.irem, 1) := by decide +kernel
theorem dX8_greatestDivisor_10 : decode cX8_greatestDivisor 10 = .ok (.ifCond .ne 11, 3) := by decide +kernel
theorem dX8_greatestDivisor_21 : decode cX8_greatestDivisor 21 = .ok (.iinc 2 (-1), 3) := by decide +kernel
theorem dX8_greatestDivisor_24 : decode cX8_greatestDivisor 24 = .ok (.goto (-22), 3) := by decide +kernel
theorem dX8_greatestDivisor_13 : decode cX8_greatestDivisor 13 = .ok (.iload_n 1, 1) := by decide +kernel
theorem dX8_greatestDivisor_14 : decode cX8_greatestDivisor 14 = .ok (.iload_n 2, 1) := by decide +kernel
theorem dX8_greatestDivisor_15 : decode cX8_greatestDivisor 15 = .ok (.irem, 1) := by decide +kernel
theorem dX8_greatestDivisor_16 : decode cX8_greatestDivisor 16 = .ok (.ifCond .ne 5, 3) := by decide +kernel
theorem dX8_greatestDivisor_19 : decode cX8_greatestDivisor 19 = .ok (.iload_n 2, 1) := by decide +kernel
theorem dX8_greatestDivisor_20 : decode cX8_greatestDivisor 20 = .ok (.ireturn, 1) := by decide +kernel
theorem dX8_odds_0 : decode cX8_odds 0 = .ok (.aload_n 0, 1) := by decide +kernel
theorem dX8_odds_1 : decode cX8_odds 1 = .ok (.getfield 60, 3) := by decide +kernel
theorem dX8_odds_4 : decode cX8_odds 4 = .ok (.getfield 96, 3) := by decide +kernel
theorem dX8_odds_7 : decode cX8_odds 7 = .ok (.iconst 1, 1) := by decide +kernel
theorem dX8_odds_8 : decode cX8_odds 8 = .ok (.iaload, 1) := by decide +kernel
theorem dX8_odds_9 : decode cX8_odds 9 = .ok (.aload_n 0, 1) := by decide +kernel
theorem dX8_odds_10 : decode cX8_odds 10 = .ok (.getfield 60, 3) := by decide +kernel
theorem dX8_odds_13 : decode cX8_odds 13 = .ok (.getfield 96, 3) := by decide +kernel
theorem dX8_odds_16 : decode cX8_odds 16 = .ok (.iconst 2, 1) := by decide +kernel
theorem dX8_odds_17 : decode cX8_odds 17 = .ok (.iaload, 1) := by decide +kernel
theorem dX8_odds_18 : decode cX8_odds 18 = .ok (.imul, 1) := by decide +kernel
theorem dX8_odds_19 : decode cX8_odds 19 = .ok (.istore 4, 2) := by decide +kernel
theorem dX8_odds_21 : decode cX8_odds 21 = .ok (.aload_n 0, 1) := by decide +kernel
theorem dX8_odds_22 : decode cX8_odds 22 = .ok (.getfield 60, 3) := by decide +kernel
theorem dX8_odds_25 : decode cX8_odds 25 = .ok (.iconst 0, 1) := by decide +kernel
theorem dX8_odds_26 : decode cX8_odds 26 = .ok (.iload_n 1, 1) := by decide +kernel
theorem dX8_odds_27 : decode cX8_odds 27 = .ok (.invokevirtual 104, 3) := by decide +kernel
theorem dX8_odds_30 : decode cX8_odds 30 = .ok (.ifCond .eq 28, 3) := by decide +kernel
theorem dX8_odds_33 : decode cX8_odds 33 = .ok (.iload 4, 2) := by decide +kernel
theorem dX8_odds_35 : decode cX8_odds 35 = .ok (.ifCond .eq 23, 3) := by decide +kernel
theorem dX8_odds_58 : decode cX8_odds 58 = .ok (.iconst (-1), 1) := by decide +kernel
theorem dX8_odds_59 : decode cX8_odds 59 = .ok (.ireturn, 1) := by decide +kernel
theorem dX8_odds_38 : decode cX8_odds 38 = .ok (.iload_n 2, 1) := by decide +kernel
theorem dX8_odds_39 : decode cX8_odds 39 = .ok (.iconst 1, 1) := by decide +kernel
theorem dX8_odds_40 : decode cX8_odds 40 = .ok (.sipush 2000, 3) := by decide +kernel
theorem dX8_odds_43 : decode cX8_odds 43 = .ok (.invokestatic 150, 3) := by decide +kernel
theorem dX8_odds_46 : decode cX8_odds 46 = .ok (.ifCond .eq 12, 3) := by decide +kernel
theorem dX8_odds_49 : decode cX8_odds 49 = .ok (.iload_n 3, 1) := by decide +kernel
theorem dX8_odds_50 : decode cX8_odds 50 = .ok (.iconst 0, 1) := by decide +kernel
theorem dX8_odds_51 : decode cX8_odds 51 = .ok (.iconst 1, 1) := by decide +kernel
theorem dX8_odds_52 : decode cX8_odds 52 = .ok (.invokestatic 150, 3) := by decide +kernel
theorem dX8_odds_55 : decode cX8_odds 55 = .ok (.ifCond .ne 5, 3) := by decide +kernel
theorem dX8_odds_60 : decode cX8_odds 60 = .ok (.iconst 0, 1) := by decide +kernel
theorem dX8_odds_61 : decode cX8_odds 61 = .ok (.istore 5, 2) := by decide +kernel
theorem dX8_odds_63 : decode cX8_odds 63 = .ok (.iconst 0, 1) := by decide +kernel
theorem dX8_odds_64 : decode cX8_odds 64 = .ok (.istore 6, 2) := by decide +kernel
theorem dX8_odds_66 : decode cX8_odds 66 = .ok (.iload 6, 2) := by decide +kernel
theorem dX8_odds_68 : decode cX8_odds 68 = .ok (.aload_n 0, 1) := by decide +kernel
theorem dX8_odds_69 : decode cX8_odds 69 = .ok (.getfield 60, 3) := by decide +kernel
theorem dX8_odds_72 : decode cX8_odds 72 = .ok (.getfield 96, 3) := by decide +kernel
theorem dX8_odds_75 : decode cX8_odds 75 = .ok (.iconst 1, 1) := by decide +kernel
theorem dX8_odds_76 : decode cX8_odds 76 = .ok (.iaload, 1) := by decide +kernel
theorem dX8_odds_77 : decode cX8_odds 77 = .ok (.if_icmp .ge 67, 3) := by decide +kernel
theorem dX8_odds_144 : decode cX8_odds 144 = .ok (.iload 5, 2) := by decide +kernel
theorem dX8_odds_146 : decode cX8_odds 146 = .ok (.iload 4, 2) := by decide +kernel
theorem dX8_odds_148 : decode cX8_odds 148 = .ok (.invokestatic 253, 3) := by decide +kernel
theorem dX8_odds_151 : decode cX8_odds 151 = .ok (.istore 6, 2) := by decide +kernel
theorem dX8_odds_153 : decode cX8_odds 153 = .ok (.iload_n 3, 1) := by decide +kernel
theorem dX8_odds_154 : decode cX8_odds 154 = .ok (.ifCond .ne 8, 3) := by decide +kernel
theorem dX8_odds_162 : decode cX8_odds 162 = .ok (.iload 4, 2) := by decide +kernel
theorem dX8_odds_164 : decode cX8_odds 164 = .ok (.iload 6, 2) := by decide +kernel
theorem dX8_odds_166 : decode cX8_odds 166 = .ok (.idiv, 1) := by decide +kernel
theorem dX8_odds_167 : decode cX8_odds 167 = .ok (.ireturn, 1) := by decide +kernel
theorem dX8_odds_157 : decode cX8_odds 157 = .ok (.iload 5, 2) := by decide +kernel
theorem dX8_odds_159 : decode cX8_odds 159 = .ok (.goto 5, 3) := by decide +kernel
theorem dX8_odds_80 : decode cX8_odds 80 = .ok (.iconst 0, 1) := by decide +kernel
theorem dX8_odds_81 : decode cX8_odds 81 = .ok (.istore 7, 2) := by decide +kernel
theorem dX8_odds_83 : decode cX8_odds 83 = .ok (.iload 7, 2) := by decide +kernel
theorem dX8_odds_85 : decode cX8_odds 85 = .ok (.aload_n 0, 1) := by decide +kernel
theorem dX8_odds_86 : decode cX8_odds 86 = .ok (.getfield 60, 3) := by decide +kernel
theorem dX8_odds_89 : decode cX8_odds 89 = .ok (.getfield 96, 3) := by decide +kernel
theorem dX8_odds_92 : decode cX8_odds 92 = .ok (.iconst 2, 1) := by decide +kernel
theorem dX8_odds_93 : decode cX8_odds 93 = .ok (.iaload, 1) := by decide +kernel
theorem dX8_odds_94 : decode cX8_odds 94 = .ok (.if_icmp .ge 44, 3) := by decide +kernel
theorem dX8_odds_138 : decode cX8_odds 138 = .ok (.iinc 6 1, 3) := by decide +kernel
theorem dX8_odds_141 : decode cX8_odds 141 = .ok (.goto (-75), 3) := by decide +kernel
theorem dX8_odds_97 : decode cX8_odds 97 = .ok (.aload_n 0, 1) := by decide +kernel
theorem dX8_odds_98 : decode cX8_odds 98 = .ok (.iload_n 1, 1) := by decide +kernel
theorem dX8_odds_99 : decode cX8_odds 99 = .ok (.iload 6, 2) := by decide +kernel
theorem dX8_odds_101 : decode cX8_odds 101 = .ok (.iload 7, 2) := by decide +kernel
theorem dX8_odds_103 : decode cX8_odds 103 = .ok (.iconst 0, 1) := by decide +kernel
theorem dX8_odds_104 : decode cX8_odds 104 = .ok (.invokevirtual 215, 3) := by decide +kernel
theorem dX8_odds_107 : decode cX8_odds 107 = .ok (.iload 5, 2) := by decide +kernel
theorem dX8_odds_109 : decode cX8_odds 109 = .ok (.aload_n 0, 1) := by decide +kernel
theorem dX8_odds_110 : decode cX8_odds 110 = .ok (.getfield 30, 3) := by decide +kernel
theorem dX8_odds_113 : decode cX8_odds 113 = .ok (.aload_n 0, 1) := by decide +kernel
theorem dX8_odds_114 : decode cX8_odds 114 = .ok (.getfield 60, 3) := by decide +kernel
theorem dX8_odds_117 : decode cX8_odds 117 = .ok (.invokevirtual 219, 3) := by decide +kernel
theorem dX8_odds_120 : decode cX8_odds 120 = .ok (.iload_n 2, 1) := by decide +kernel
theorem dX8_odds_121 : decode cX8_odds 121 = .ok (.if_icmp .lt 7, 3) := by decide +kernel
theorem dX8_odds_128 : decode cX8_odds 128 = .ok (.iconst 0, 1) := by decide +kernel
theorem dX8_odds_129 : decode cX8_odds 129 = .ok (.iadd, 1) := by decide +kernel
theorem dX8_odds_130 : decode cX8_odds 130 = .ok (.istore 5, 2) := by decide +kernel
theorem dX8_odds_132 : decode cX8_odds 132 = .ok (.iinc 7 1, 3) := by decide +kernel
theorem dX8_odds_135 : decode cX8_odds 135 = .ok (.goto (-52), 3) := by decide +kernel
theorem dX8_odds_124 : decode cX8_odds 124 = .ok (.iconst 1, 1) := by decide +kernel
theorem dX8_odds_125 : decode cX8_odds 125 = .ok (.goto 4, 3) := by decide +kernel
theorem dX8_stepsHeldTurned_0 : decode cX8_stepsHeldTurned 0 = .ok (.aload_n 0, 1) := by decide +kernel
theorem dX8_stepsHeldTurned_1 : decode cX8_stepsHeldTurned 1 = .ok (.getfield 30, 3) := by decide +kernel
theorem dX8_stepsHeldTurned_4 : decode cX8_stepsHeldTurned 4 = .ok (.getfield 259, 3) := by decide +kernel
theorem dX8_stepsHeldTurned_7 : decode cX8_stepsHeldTurned 7 = .ok (.aload_n 0, 1) := by decide +kernel
theorem dX8_stepsHeldTurned_8 : decode cX8_stepsHeldTurned 8 = .ok (.getfield 60, 3) := by decide +kernel
theorem dX8_stepsHeldTurned_11 : decode cX8_stepsHeldTurned 11 = .ok (.getfield 108, 3) := by decide +kernel
theorem dX8_stepsHeldTurned_14 : decode cX8_stepsHeldTurned 14 = .ok (.iload_n 1, 1) := by decide +kernel
theorem dX8_stepsHeldTurned_15 : decode cX8_stepsHeldTurned 15 = .ok (.iaload, 1) := by decide +kernel
theorem dX8_stepsHeldTurned_16 : decode cX8_stepsHeldTurned 16 = .ok (.aload_n 0, 1) := by decide +kernel
theorem dX8_stepsHeldTurned_17 : decode cX8_stepsHeldTurned 17 = .ok (.getfield 60, 3) := by decide +kernel
theorem dX8_stepsHeldTurned_20 : decode cX8_stepsHeldTurned 20 = .ok (.getfield 111, 3) := by decide +kernel
theorem dX8_stepsHeldTurned_23 : decode cX8_stepsHeldTurned 23 = .ok (.iload_n 1, 1) := by decide +kernel
theorem dX8_stepsHeldTurned_24 : decode cX8_stepsHeldTurned 24 = .ok (.iaload, 1) := by decide +kernel
theorem dX8_stepsHeldTurned_25 : decode cX8_stepsHeldTurned 25 = .ok (.iconst 1, 1) := by decide +kernel
theorem dX8_stepsHeldTurned_26 : decode cX8_stepsHeldTurned 26 = .ok (.iload_n 2, 1) := by decide +kernel
theorem dX8_stepsHeldTurned_27 : decode cX8_stepsHeldTurned 27 = .ok (.ishl, 1) := by decide +kernel
theorem dX8_stepsHeldTurned_28 : decode cX8_stepsHeldTurned 28 = .ok (.ixor, 1) := by decide +kernel
theorem dX8_stepsHeldTurned_29 : decode cX8_stepsHeldTurned 29 = .ok (.invokevirtual 124, 3) := by decide +kernel
theorem dX8_stepsHeldTurned_32 : decode cX8_stepsHeldTurned 32 = .ok (.aload_n 0, 1) := by decide +kernel
theorem dX8_stepsHeldTurned_33 : decode cX8_stepsHeldTurned 33 = .ok (.getfield 30, 3) := by decide +kernel
theorem dX8_stepsHeldTurned_36 : decode cX8_stepsHeldTurned 36 = .ok (.aload_n 0, 1) := by decide +kernel
theorem dX8_stepsHeldTurned_37 : decode cX8_stepsHeldTurned 37 = .ok (.getfield 60, 3) := by decide +kernel
theorem dX8_stepsHeldTurned_40 : decode cX8_stepsHeldTurned 40 = .ok (.invokevirtual 219, 3) := by decide +kernel
theorem dX8_stepsHeldTurned_43 : decode cX8_stepsHeldTurned 43 = .ok (.ireturn, 1) := by decide +kernel
theorem dX8_worse_0 : decode cX8_worse 0 = .ok (.aload_n 0, 1) := by decide +kernel
theorem dX8_worse_1 : decode cX8_worse 1 = .ok (.iload_n 1, 1) := by decide +kernel
theorem dX8_worse_2 : decode cX8_worse 2 = .ok (.iload_n 2, 1) := by decide +kernel
theorem dX8_worse_3 : decode cX8_worse 3 = .ok (.iload_n 3, 1) := by decide +kernel
theorem dX8_worse_4 : decode cX8_worse 4 = .ok (.invokevirtual 208, 3) := by decide +kernel
theorem dX8_worse_7 : decode cX8_worse 7 = .ok (.ifCond .eq 23, 3) := by decide +kernel
theorem dX8_worse_10 : decode cX8_worse 10 = .ok (.iload 4, 2) := by decide +kernel
theorem dX8_worse_12 : decode cX8_worse 12 = .ok (.iconst 0, 1) := by decide +kernel
theorem dX8_worse_13 : decode cX8_worse 13 = .ok (.aload_n 0, 1) := by decide +kernel
theorem dX8_worse_14 : decode cX8_worse 14 = .ok (.getfield 60, 3) := by decide +kernel
theorem dX8_worse_17 : decode cX8_worse 17 = .ok (.getfield 108, 3) := by decide +kernel
theorem dX8_worse_20 : decode cX8_worse 20 = .ok (.iload_n 1, 1) := by decide +kernel
theorem dX8_worse_21 : decode cX8_worse 21 = .ok (.iaload, 1) := by decide +kernel
theorem dX8_worse_22 : decode cX8_worse 22 = .ok (.iconst 1, 1) := by decide +kernel
theorem dX8_worse_23 : decode cX8_worse 23 = .ok (.isub, 1) := by decide +kernel
theorem dX8_worse_24 : decode cX8_worse 24 = .ok (.invokestatic 150, 3) := by decide +kernel
theorem dX8_worse_27 : decode cX8_worse 27 = .ok (.ifCond .ne 7, 3) := by decide +kernel
theorem dX8_worse_34 : decode cX8_worse 34 = .ok (.aload_n 0, 1) := by decide +kernel
theorem dX8_worse_35 : decode cX8_worse 35 = .ok (.iload_n 1, 1) := by decide +kernel
theorem dX8_worse_36 : decode cX8_worse 36 = .ok (.iload_n 2, 1) := by decide +kernel
theorem dX8_worse_37 : decode cX8_worse 37 = .ok (.iload_n 3, 1) := by decide +kernel
theorem dX8_worse_38 : decode cX8_worse 38 = .ok (.iconst 0, 1) := by decide +kernel
theorem dX8_worse_39 : decode cX8_worse 39 = .ok (.invokevirtual 215, 3) := by decide +kernel
theorem dX8_worse_42 : decode cX8_worse 42 = .ok (.aload_n 0, 1) := by decide +kernel
theorem dX8_worse_43 : decode cX8_worse 43 = .ok (.getfield 30, 3) := by decide +kernel
theorem dX8_worse_46 : decode cX8_worse 46 = .ok (.aload_n 0, 1) := by decide +kernel
theorem dX8_worse_47 : decode cX8_worse 47 = .ok (.getfield 60, 3) := by decide +kernel
theorem dX8_worse_50 : decode cX8_worse 50 = .ok (.invokevirtual 219, 3) := by decide +kernel
theorem dX8_worse_53 : decode cX8_worse 53 = .ok (.aload_n 0, 1) := by decide +kernel
theorem dX8_worse_54 : decode cX8_worse 54 = .ok (.iload_n 1, 1) := by decide +kernel
theorem dX8_worse_55 : decode cX8_worse 55 = .ok (.iload 4, 2) := by decide +kernel
theorem dX8_worse_57 : decode cX8_worse 57 = .ok (.invokevirtual 256, 3) := by decide +kernel
theorem dX8_worse_60 : decode cX8_worse 60 = .ok (.isub, 1) := by decide +kernel
theorem dX8_worse_61 : decode cX8_worse 61 = .ok (.ireturn, 1) := by decide +kernel
theorem dX8_worse_30 : decode cX8_worse 30 = .ok (.sipush (-10000), 3) := by decide +kernel
theorem dX8_worse_33 : decode cX8_worse 33 = .ok (.ireturn, 1) := by decide +kernel
theorem dX8_which_0 : decode cX8_which 0 = .ok (.aload_n 0, 1) := by decide +kernel
theorem dX8_which_1 : decode cX8_which 1 = .ok (.iload_n 1, 1) := by decide +kernel
theorem dX8_which_2 : decode cX8_which 2 = .ok (.iload_n 2, 1) := by decide +kernel
theorem dX8_which_3 : decode cX8_which 3 = .ok (.iload_n 3, 1) := by decide +kernel
theorem dX8_which_4 : decode cX8_which 4 = .ok (.invokevirtual 208, 3) := by decide +kernel
theorem dX8_which_7 : decode cX8_which 7 = .ok (.ifCond .ne 5, 3) := by decide +kernel
theorem dX8_which_12 : decode cX8_which 12 = .ok (.aload_n 0, 1) := by decide +kernel
theorem dX8_which_13 : decode cX8_which 13 = .ok (.iload_n 1, 1) := by decide +kernel
theorem dX8_which_14 : decode cX8_which 14 = .ok (.iload_n 2, 1) := by decide +kernel
theorem dX8_which_15 : decode cX8_which 15 = .ok (.iload_n 3, 1) := by decide +kernel
theorem dX8_which_16 : decode cX8_which 16 = .ok (.iconst 0, 1) := by decide +kernel
theorem dX8_which_17 : decode cX8_which 17 = .ok (.invokevirtual 215, 3) := by decide +kernel
theorem dX8_which_20 : decode cX8_which 20 = .ok (.iconst 0, 1) := by decide +kernel
theorem dX8_which_21 : decode cX8_which 21 = .ok (.istore 4, 2) := by decide +kernel
theorem dX8_which_23 : decode cX8_which 23 = .ok (.aload_n 0, 1) := by decide +kernel
theorem dX8_which_24 : decode cX8_which 24 = .ok (.iload_n 1, 1) := by decide +kernel
theorem dX8_which_25 : decode cX8_which 25 = .ok (.iconst 0, 1) := by decide +kernel
theorem dX8_which_26 : decode cX8_which 26 = .ok (.invokevirtual 256, 3) := by decide +kernel
theorem dX8_which_29 : decode cX8_which 29 = .ok (.istore 5, 2) := by decide +kernel
theorem dX8_which_31 : decode cX8_which 31 = .ok (.iconst 1, 1) := by decide +kernel
theorem dX8_which_32 : decode cX8_which 32 = .ok (.istore 6, 2) := by decide +kernel
theorem dX8_which_34 : decode cX8_which 34 = .ok (.iload 6, 2) := by decide +kernel
theorem dX8_which_36 : decode cX8_which 36 = .ok (.aload_n 0, 1) := by decide +kernel
theorem dX8_which_37 : decode cX8_which 37 = .ok (.getfield 60, 3) := by decide +kernel
theorem dX8_which_40 : decode cX8_which 40 = .ok (.getfield 108, 3) := by decide +kernel
theorem dX8_which_43 : decode cX8_which 43 = .ok (.iload_n 1, 1) := by decide +kernel
theorem dX8_which_44 : decode cX8_which 44 = .ok (.iaload, 1) := by decide +kernel
theorem dX8_which_45 : decode cX8_which 45 = .ok (.if_icmp .ge 33, 3) := by decide +kernel
theorem dX8_which_78 : decode cX8_which 78 = .ok (.iload 4, 2) := by decide +kernel
theorem dX8_which_80 : decode cX8_which 80 = .ok (.ireturn, 1) := by decide +kernel
theorem dX8_which_48 : decode cX8_which 48 = .ok (.aload_n 0, 1) := by decide +kernel
theorem dX8_which_49 : decode cX8_which 49 = .ok (.iload_n 1, 1) := by decide +kernel
theorem dX8_which_50 : decode cX8_which 50 = .ok (.iload 6, 2) := by decide +kernel
theorem dX8_which_52 : decode cX8_which 52 = .ok (.invokevirtual 256, 3) := by decide +kernel
theorem dX8_which_55 : decode cX8_which 55 = .ok (.istore 7, 2) := by decide +kernel
theorem dX8_which_57 : decode cX8_which 57 = .ok (.iload 7, 2) := by decide +kernel
theorem dX8_which_59 : decode cX8_which 59 = .ok (.iload 5, 2) := by decide +kernel
theorem dX8_which_61 : decode cX8_which 61 = .ok (.if_icmp .ge 11, 3) := by decide +kernel
theorem dX8_which_72 : decode cX8_which 72 = .ok (.iinc 6 1, 3) := by decide +kernel
theorem dX8_which_75 : decode cX8_which 75 = .ok (.goto (-41), 3) := by decide +kernel
theorem dX8_which_64 : decode cX8_which 64 = .ok (.iload 7, 2) := by decide +kernel
theorem dX8_which_66 : decode cX8_which 66 = .ok (.istore 5, 2) := by decide +kernel
theorem dX8_which_68 : decode cX8_which 68 = .ok (.iload 6, 2) := by decide +kernel
theorem dX8_which_70 : decode cX8_which 70 = .ok (.istore 4, 2) := by decide +kernel
theorem dX8_which_10 : decode cX8_which 10 = .ok (.iconst (-1), 1) := by decide +kernel
theorem dX8_which_11 : decode cX8_which 11 = .ok (.ireturn, 1) := by decide +kernel
theorem dX8_best_0 : decode cX8_best 0 = .ok (.iload_n 1, 1) := by decide +kernel
theorem dX8_best_1 : decode cX8_best 1 = .ok (.iconst 1, 1) := by decide +kernel
theorem dX8_best_2 : decode cX8_best 2 = .ok (.bipush 6, 2) := by decide +kernel
theorem dX8_best_4 : decode cX8_best 4 = .ok (.invokestatic 150, 3) := by decide +kernel
theorem dX8_best_7 : decode cX8_best 7 = .ok (.ifCond .eq 12, 3) := by decide +kernel
theorem dX8_best_10 : decode cX8_best 10 = .ok (.aload_n 0, 1) := by decide +kernel
theorem dX8_best_11 : decode cX8_best 11 = .ok (.iload_n 2, 1) := by decide +kernel
theorem dX8_best_12 : decode cX8_best 12 = .ok (.iload_n 3, 1) := by decide +kernel
theorem dX8_best_13 : decode cX8_best 13 = .ok (.invokevirtual 244, 3) := by decide +kernel
theorem dX8_best_16 : decode cX8_best 16 = .ok (.ifCond .ne 5, 3) := by decide +kernel
theorem dX8_best_21 : decode cX8_best 21 = .ok (.iload 4, 2) := by decide +kernel
theorem dX8_best_23 : decode cX8_best 23 = .ok (.iconst 0, 1) := by decide +kernel
theorem dX8_best_24 : decode cX8_best 24 = .ok (.sipush 999, 3) := by decide +kernel
theorem dX8_best_27 : decode cX8_best 27 = .ok (.invokestatic 150, 3) := by decide +kernel
theorem dX8_best_30 : decode cX8_best 30 = .ok (.ifCond .eq 13, 3) := by decide +kernel
theorem dX8_best_33 : decode cX8_best 33 = .ok (.iload 5, 2) := by decide +kernel
theorem dX8_best_35 : decode cX8_best 35 = .ok (.iconst 0, 1) := by decide +kernel
theorem dX8_best_36 : decode cX8_best 36 = .ok (.iconst 2, 1) := by decide +kernel
theorem dX8_best_37 : decode cX8_best 37 = .ok (.invokestatic 150, 3) := by decide +kernel
theorem dX8_best_40 : decode cX8_best 40 = .ok (.ifCond .ne 5, 3) := by decide +kernel
theorem dX8_best_45 : decode cX8_best 45 = .ok (.aload_n 0, 1) := by decide +kernel
theorem dX8_best_46 : decode cX8_best 46 = .ok (.iload_n 2, 1) := by decide +kernel
theorem dX8_best_47 : decode cX8_best 47 = .ok (.iload_n 3, 1) := by decide +kernel
theorem dX8_best_48 : decode cX8_best 48 = .ok (.invokevirtual 260, 3) := by decide +kernel
theorem dX8_best_51 : decode cX8_best 51 = .ok (.iconst (-1), 1) := by decide +kernel
theorem dX8_best_52 : decode cX8_best 52 = .ok (.istore 6, 2) := by decide +kernel
theorem dX8_best_54 : decode cX8_best 54 = .ok (.iconst (-1), 1) := by decide +kernel
theorem dX8_best_55 : decode cX8_best 55 = .ok (.istore 7, 2) := by decide +kernel
theorem dX8_best_57 : decode cX8_best 57 = .ok (.iconst (-1), 1) := by decide +kernel
theorem dX8_best_58 : decode cX8_best 58 = .ok (.istore 8, 2) := by decide +kernel
theorem dX8_best_60 : decode cX8_best 60 = .ok (.iconst 0, 1) := by decide +kernel
theorem dX8_best_61 : decode cX8_best 61 = .ok (.istore 9, 2) := by decide +kernel
theorem dX8_best_63 : decode cX8_best 63 = .ok (.iload 9, 2) := by decide +kernel
theorem dX8_best_65 : decode cX8_best 65 = .ok (.iconst 1, 1) := by decide +kernel
theorem dX8_best_66 : decode cX8_best 66 = .ok (.iload_n 1, 1) := by decide +kernel
theorem dX8_best_67 : decode cX8_best 67 = .ok (.ishl, 1) := by decide +kernel
theorem dX8_best_68 : decode cX8_best 68 = .ok (.if_icmp .ge 84, 3) := by decide +kernel
theorem dX8_best_152 : decode cX8_best 152 = .ok (.iload 5, 2) := by decide +kernel
theorem dX8_best_154 : decode cX8_best 154 = .ok (.ifCond .ne 6, 3) := by decide +kernel
theorem dX8_best_160 : decode cX8_best 160 = .ok (.iload 5, 2) := by decide +kernel
theorem dX8_best_162 : decode cX8_best 162 = .ok (.iconst 1, 1) := by decide +kernel
theorem dX8_best_163 : decode cX8_best 163 = .ok (.if_icmp .ne 8, 3) := by decide +kernel
theorem dX8_best_171 : decode cX8_best 171 = .ok (.iload 8, 2) := by decide +kernel
theorem dX8_best_173 : decode cX8_best 173 = .ok (.ireturn, 1) := by decide +kernel
theorem dX8_best_166 : decode cX8_best 166 = .ok (.iload 7, 2) := by decide +kernel
theorem dX8_best_168 : decode cX8_best 168 = .ok (.goto 5, 3) := by decide +kernel
theorem dX8_best_157 : decode cX8_best 157 = .ok (.iload 6, 2) := by decide +kernel
theorem dX8_best_159 : decode cX8_best 159 = .ok (.ireturn, 1) := by decide +kernel
theorem dX8_best_71 : decode cX8_best 71 = .ok (.aload_n 0, 1) := by decide +kernel
theorem dX8_best_72 : decode cX8_best 72 = .ok (.getfield 30, 3) := by decide +kernel
theorem dX8_best_75 : decode cX8_best 75 = .ok (.getfield 259, 3) := by decide +kernel
theorem dX8_best_78 : decode cX8_best 78 = .ok (.iload_n 1, 1) := by decide +kernel
theorem dX8_best_79 : decode cX8_best 79 = .ok (.iload 9, 2) := by decide +kernel
theorem dX8_best_81 : decode cX8_best 81 = .ok (.invokevirtual 124, 3) := by decide +kernel
theorem dX8_best_84 : decode cX8_best 84 = .ok (.aload_n 0, 1) := by decide +kernel
theorem dX8_best_85 : decode cX8_best 85 = .ok (.getfield 30, 3) := by decide +kernel
theorem dX8_best_88 : decode cX8_best 88 = .ok (.aload_n 0, 1) := by decide +kernel
theorem dX8_best_89 : decode cX8_best 89 = .ok (.getfield 60, 3) := by decide +kernel
theorem dX8_best_92 : decode cX8_best 92 = .ok (.invokevirtual 219, 3) := by decide +kernel
theorem dX8_best_95 : decode cX8_best 95 = .ok (.istore 10, 2) := by decide +kernel
theorem dX8_best_97 : decode cX8_best 97 = .ok (.iload 10, 2) := by decide +kernel
theorem dX8_best_99 : decode cX8_best 99 = .ok (.iload 7, 2) := by decide +kernel
theorem dX8_best_101 : decode cX8_best 101 = .ok (.if_icmp .le 17, 3) := by decide +kernel
theorem dX8_best_118 : decode cX8_best 118 = .ok (.iconst (-1), 1) := by decide +kernel
theorem dX8_best_119 : decode cX8_best 119 = .ok (.istore 11, 2) := by decide +kernel
theorem dX8_best_121 : decode cX8_best 121 = .ok (.iload 11, 2) := by decide +kernel
theorem dX8_best_123 : decode cX8_best 123 = .ok (.iconst (-1), 1) := by decide +kernel
theorem dX8_best_124 : decode cX8_best 124 = .ok (.if_icmp .eq 22, 3) := by decide +kernel
theorem dX8_best_146 : decode cX8_best 146 = .ok (.iinc 9 2, 3) := by decide +kernel
theorem dX8_best_149 : decode cX8_best 149 = .ok (.goto (-86), 3) := by decide +kernel
theorem dX8_best_104 : decode cX8_best 104 = .ok (.aload_n 0, 1) := by decide +kernel
theorem dX8_best_105 : decode cX8_best 105 = .ok (.getfield 30, 3) := by decide +kernel
theorem dX8_best_108 : decode cX8_best 108 = .ok (.aload_n 0, 1) := by decide +kernel
theorem dX8_best_109 : decode cX8_best 109 = .ok (.getfield 60, 3) := by decide +kernel
theorem dX8_best_112 : decode cX8_best 112 = .ok (.invokevirtual 237, 3) := by decide +kernel
theorem dX8_best_115 : decode cX8_best 115 = .ok (.goto 4, 3) := by decide +kernel
theorem dX8_best_127 : decode cX8_best 127 = .ok (.iload 11, 2) := by decide +kernel
theorem dX8_best_129 : decode cX8_best 129 = .ok (.iload 4, 2) := by decide +kernel
theorem dX8_best_131 : decode cX8_best 131 = .ok (.if_icmp .gt 15, 3) := by decide +kernel
theorem dX8_best_134 : decode cX8_best 134 = .ok (.iload 9, 2) := by decide +kernel
theorem dX8_best_136 : decode cX8_best 136 = .ok (.istore 6, 2) := by decide +kernel
theorem dX8_best_138 : decode cX8_best 138 = .ok (.iload 10, 2) := by decide +kernel
theorem dX8_best_140 : decode cX8_best 140 = .ok (.istore 7, 2) := by decide +kernel
theorem dX8_best_142 : decode cX8_best 142 = .ok (.iload 11, 2) := by decide +kernel
theorem dX8_best_144 : decode cX8_best 144 = .ok (.istore 8, 2) := by decide +kernel
theorem dX8_best_43 : decode cX8_best 43 = .ok (.iconst (-1), 1) := by decide +kernel
theorem dX8_best_44 : decode cX8_best 44 = .ok (.ireturn, 1) := by decide +kernel
theorem dX8_best_19 : decode cX8_best 19 = .ok (.iconst (-1), 1) := by decide +kernel
theorem dX8_best_20 : decode cX8_best 20 = .ok (.ireturn, 1) := by decide +kernel
theorem dX8_isOutdone_0 : decode cX8_isOutdone 0 = .ok (.iconst 0, 1) := by decide +kernel
theorem dX8_isOutdone_1 : decode cX8_isOutdone 1 = .ok (.istore_n 3, 1) := by decide +kernel
theorem dX8_isOutdone_2 : decode cX8_isOutdone 2 = .ok (.iload_n 3, 1) := by decide +kernel
theorem dX8_isOutdone_3 : decode cX8_isOutdone 3 = .ok (.iload_n 2, 1) := by decide +kernel
theorem dX8_isOutdone_4 : decode cX8_isOutdone 4 = .ok (.if_icmp .ge 83, 3) := by decide +kernel
theorem dX8_isOutdone_87 : decode cX8_isOutdone 87 = .ok (.iconst 0, 1) := by decide +kernel
theorem dX8_isOutdone_88 : decode cX8_isOutdone 88 = .ok (.ireturn, 1) := by decide +kernel
theorem dX8_isOutdone_7 : decode cX8_isOutdone 7 = .ok (.aload_n 0, 1) := by decide +kernel
theorem dX8_isOutdone_8 : decode cX8_isOutdone 8 = .ok (.getfield 53, 3) := by decide +kernel
theorem dX8_isOutdone_11 : decode cX8_isOutdone 11 = .ok (.iload_n 3, 1) := by decide +kernel
theorem dX8_isOutdone_12 : decode cX8_isOutdone 12 = .ok (.iaload, 1) := by decide +kernel
theorem dX8_isOutdone_13 : decode cX8_isOutdone 13 = .ok (.aload_n 0, 1) := by decide +kernel
theorem dX8_isOutdone_14 : decode cX8_isOutdone 14 = .ok (.getfield 53, 3) := by decide +kernel
theorem dX8_isOutdone_17 : decode cX8_isOutdone 17 = .ok (.iload_n 1, 1) := by decide +kernel
theorem dX8_isOutdone_18 : decode cX8_isOutdone 18 = .ok (.iaload, 1) := by decide +kernel
theorem dX8_isOutdone_19 : decode cX8_isOutdone 19 = .ok (.if_icmp .lt 22, 3) := by decide +kernel
theorem dX8_isOutdone_41 : decode cX8_isOutdone 41 = .ok (.iconst 0, 1) := by decide +kernel
theorem dX8_isOutdone_42 : decode cX8_isOutdone 42 = .ok (.istore 4, 2) := by decide +kernel
theorem dX8_isOutdone_44 : decode cX8_isOutdone 44 = .ok (.iload 4, 2) := by decide +kernel
theorem dX8_isOutdone_46 : decode cX8_isOutdone 46 = .ok (.ifCond .eq 35, 3) := by decide +kernel
theorem dX8_isOutdone_81 : decode cX8_isOutdone 81 = .ok (.iinc 3 1, 3) := by decide +kernel
theorem dX8_isOutdone_84 : decode cX8_isOutdone 84 = .ok (.goto (-82), 3) := by decide +kernel
theorem dX8_isOutdone_22 : decode cX8_isOutdone 22 = .ok (.aload_n 0, 1) := by decide +kernel
theorem dX8_isOutdone_23 : decode cX8_isOutdone 23 = .ok (.getfield 56, 3) := by decide +kernel
theorem dX8_isOutdone_26 : decode cX8_isOutdone 26 = .ok (.iload_n 3, 1) := by decide +kernel
theorem dX8_isOutdone_27 : decode cX8_isOutdone 27 = .ok (.iaload, 1) := by decide +kernel
theorem dX8_isOutdone_28 : decode cX8_isOutdone 28 = .ok (.aload_n 0, 1) := by decide +kernel
theorem dX8_isOutdone_29 : decode cX8_isOutdone 29 = .ok (.getfield 56, 3) := by decide +kernel
theorem dX8_isOutdone_32 : decode cX8_isOutdone 32 = .ok (.iload_n 1, 1) := by decide +kernel
theorem dX8_isOutdone_33 : decode cX8_isOutdone 33 = .ok (.iaload, 1) := by decide +kernel
theorem dX8_isOutdone_34 : decode cX8_isOutdone 34 = .ok (.if_icmp .gt 7, 3) := by decide +kernel
theorem dX8_isOutdone_37 : decode cX8_isOutdone 37 = .ok (.iconst 1, 1) := by decide +kernel
theorem dX8_isOutdone_38 : decode cX8_isOutdone 38 = .ok (.goto 4, 3) := by decide +kernel
theorem dX8_isOutdone_49 : decode cX8_isOutdone 49 = .ok (.aload_n 0, 1) := by decide +kernel
theorem dX8_isOutdone_50 : decode cX8_isOutdone 50 = .ok (.getfield 53, 3) := by decide +kernel
theorem dX8_isOutdone_53 : decode cX8_isOutdone 53 = .ok (.iload_n 3, 1) := by decide +kernel
theorem dX8_isOutdone_54 : decode cX8_isOutdone 54 = .ok (.iaload, 1) := by decide +kernel
theorem dX8_isOutdone_55 : decode cX8_isOutdone 55 = .ok (.aload_n 0, 1) := by decide +kernel
theorem dX8_isOutdone_56 : decode cX8_isOutdone 56 = .ok (.getfield 53, 3) := by decide +kernel
theorem dX8_isOutdone_59 : decode cX8_isOutdone 59 = .ok (.iload_n 1, 1) := by decide +kernel
theorem dX8_isOutdone_60 : decode cX8_isOutdone 60 = .ok (.iaload, 1) := by decide +kernel
theorem dX8_isOutdone_61 : decode cX8_isOutdone 61 = .ok (.if_icmp .gt 18, 3) := by decide +kernel
theorem dX8_isOutdone_79 : decode cX8_isOutdone 79 = .ok (.iconst 1, 1) := by decide +kernel
theorem dX8_isOutdone_80 : decode cX8_isOutdone 80 = .ok (.ireturn, 1) := by decide +kernel
theorem dX8_isOutdone_64 : decode cX8_isOutdone 64 = .ok (.aload_n 0, 1) := by decide +kernel
theorem dX8_isOutdone_65 : decode cX8_isOutdone 65 = .ok (.getfield 56, 3) := by decide +kernel
theorem dX8_isOutdone_68 : decode cX8_isOutdone 68 = .ok (.iload_n 3, 1) := by decide +kernel
theorem dX8_isOutdone_69 : decode cX8_isOutdone 69 = .ok (.iaload, 1) := by decide +kernel
theorem dX8_isOutdone_70 : decode cX8_isOutdone 70 = .ok (.aload_n 0, 1) := by decide +kernel
theorem dX8_isOutdone_71 : decode cX8_isOutdone 71 = .ok (.getfield 56, 3) := by decide +kernel
theorem dX8_isOutdone_74 : decode cX8_isOutdone 74 = .ok (.iload_n 1, 1) := by decide +kernel
theorem dX8_isOutdone_75 : decode cX8_isOutdone 75 = .ok (.iaload, 1) := by decide +kernel
theorem dX8_isOutdone_76 : decode cX8_isOutdone 76 = .ok (.if_icmp .ge 5, 3) := by decide +kernel
theorem dX8_both_0 : decode cX8_both 0 = .ok (.aload_n 0, 1) := by decide +kernel
theorem dX8_both_1 : decode cX8_both 1 = .ok (.iload_n 1, 1) := by decide +kernel
theorem dX8_both_2 : decode cX8_both 2 = .ok (.iload_n 2, 1) := by decide +kernel
theorem dX8_both_3 : decode cX8_both 3 = .ok (.invokevirtual 244, 3) := by decide +kernel
theorem dX8_both_6 : decode cX8_both 6 = .ok (.ifCond .ne 5, 3) := by decide +kernel
theorem dX8_both_11 : decode cX8_both 11 = .ok (.aload_n 0, 1) := by decide +kernel
theorem dX8_both_12 : decode cX8_both 12 = .ok (.getfield 60, 3) := by decide +kernel
theorem dX8_both_15 : decode cX8_both 15 = .ok (.getfield 96, 3) := by decide +kernel
theorem dX8_both_18 : decode cX8_both 18 = .ok (.iconst 0, 1) := by decide +kernel
theorem dX8_both_19 : decode cX8_both 19 = .ok (.iaload, 1) := by decide +kernel
theorem dX8_both_20 : decode cX8_both 20 = .ok (.istore_n 3, 1) := by decide +kernel
theorem dX8_both_21 : decode cX8_both 21 = .ok (.iconst 0, 1) := by decide +kernel
theorem dX8_both_22 : decode cX8_both 22 = .ok (.istore 4, 2) := by decide +kernel
theorem dX8_both_24 : decode cX8_both 24 = .ok (.iload 4, 2) := by decide +kernel
theorem dX8_both_26 : decode cX8_both 26 = .ok (.iload_n 3, 1) := by decide +kernel
theorem dX8_both_27 : decode cX8_both 27 = .ok (.if_icmp .ge 70, 3) := by decide +kernel
theorem dX8_both_97 : decode cX8_both 97 = .ok (.iconst 0, 1) := by decide +kernel
theorem dX8_both_98 : decode cX8_both 98 = .ok (.istore 4, 2) := by decide +kernel
theorem dX8_both_100 : decode cX8_both 100 = .ok (.iconst 0, 1) := by decide +kernel
theorem dX8_both_101 : decode cX8_both 101 = .ok (.istore 5, 2) := by decide +kernel
theorem dX8_both_103 : decode cX8_both 103 = .ok (.iload 5, 2) := by decide +kernel
theorem dX8_both_105 : decode cX8_both 105 = .ok (.iload_n 3, 1) := by decide +kernel
theorem dX8_both_106 : decode cX8_both 106 = .ok (.if_icmp .ge 32, 3) := by decide +kernel
theorem dX8_both_138 : decode cX8_both 138 = .ok (.iload 4, 2) := by decide +kernel
theorem dX8_both_140 : decode cX8_both 140 = .ok (.ireturn, 1) := by decide +kernel
theorem dX8_both_109 : decode cX8_both 109 = .ok (.iload 4, 2) := by decide +kernel
theorem dX8_both_111 : decode cX8_both 111 = .ok (.aload_n 0, 1) := by decide +kernel
theorem dX8_both_112 : decode cX8_both 112 = .ok (.iload 5, 2) := by decide +kernel
theorem dX8_both_114 : decode cX8_both 114 = .ok (.iload_n 3, 1) := by decide +kernel
theorem dX8_both_115 : decode cX8_both 115 = .ok (.invokevirtual 263, 3) := by decide +kernel
theorem dX8_both_118 : decode cX8_both 118 = .ok (.ifCond .eq 7, 3) := by decide +kernel
theorem dX8_both_121 : decode cX8_both 121 = .ok (.iconst 0, 1) := by decide +kernel
theorem dX8_both_122 : decode cX8_both 122 = .ok (.goto 7, 3) := by decide +kernel
theorem dX8_both_129 : decode cX8_both 129 = .ok (.ior, 1) := by decide +kernel
theorem dX8_both_130 : decode cX8_both 130 = .ok (.istore 4, 2) := by decide +kernel
theorem dX8_both_132 : decode cX8_both 132 = .ok (.iinc 5 1, 3) := by decide +kernel
theorem dX8_both_135 : decode cX8_both 135 = .ok (.goto (-32), 3) := by decide +kernel
theorem dX8_both_125 : decode cX8_both 125 = .ok (.iconst 1, 1) := by decide +kernel
theorem dX8_both_126 : decode cX8_both 126 = .ok (.iload 5, 2) := by decide +kernel
theorem dX8_both_128 : decode cX8_both 128 = .ok (.ishl, 1) := by decide +kernel
theorem dX8_both_30 : decode cX8_both 30 = .ok (.aload_n 0, 1) := by decide +kernel
theorem dX8_both_31 : decode cX8_both 31 = .ok (.iload 4, 2) := by decide +kernel
theorem dX8_both_33 : decode cX8_both 33 = .ok (.iload_n 1, 1) := by decide +kernel
theorem dX8_both_34 : decode cX8_both 34 = .ok (.iload_n 2, 1) := by decide +kernel
theorem dX8_both_35 : decode cX8_both 35 = .ok (.iconst 0, 1) := by decide +kernel
theorem dX8_both_36 : decode cX8_both 36 = .ok (.invokevirtual 215, 3) := by decide +kernel
theorem dX8_both_39 : decode cX8_both 39 = .ok (.aload_n 0, 1) := by decide +kernel
theorem dX8_both_40 : decode cX8_both 40 = .ok (.getfield 53, 3) := by decide +kernel
theorem dX8_both_43 : decode cX8_both 43 = .ok (.iload 4, 2) := by decide +kernel
theorem dX8_both_45 : decode cX8_both 45 = .ok (.aload_n 0, 1) := by decide +kernel
theorem dX8_both_46 : decode cX8_both 46 = .ok (.getfield 30, 3) := by decide +kernel
theorem dX8_both_49 : decode cX8_both 49 = .ok (.aload_n 0, 1) := by decide +kernel
theorem dX8_both_50 : decode cX8_both 50 = .ok (.getfield 60, 3) := by decide +kernel
theorem dX8_both_53 : decode cX8_both 53 = .ok (.invokevirtual 219, 3) := by decide +kernel
theorem dX8_both_56 : decode cX8_both 56 = .ok (.iastore, 1) := by decide +kernel
theorem dX8_both_57 : decode cX8_both 57 = .ok (.aload_n 0, 1) := by decide +kernel
theorem dX8_both_58 : decode cX8_both 58 = .ok (.getfield 30, 3) := by decide +kernel
theorem dX8_both_61 : decode cX8_both 61 = .ok (.aload_n 0, 1) := by decide +kernel
theorem dX8_both_62 : decode cX8_both 62 = .ok (.getfield 60, 3) := by decide +kernel
theorem dX8_both_65 : decode cX8_both 65 = .ok (.invokevirtual 237, 3) := by decide +kernel
theorem dX8_both_68 : decode cX8_both 68 = .ok (.istore 5, 2) := by decide +kernel
theorem dX8_both_70 : decode cX8_both 70 = .ok (.aload_n 0, 1) := by decide +kernel
theorem dX8_both_71 : decode cX8_both 71 = .ok (.getfield 56, 3) := by decide +kernel
theorem dX8_both_74 : decode cX8_both 74 = .ok (.iload 4, 2) := by decide +kernel
theorem dX8_both_76 : decode cX8_both 76 = .ok (.iload 5, 2) := by decide +kernel
theorem dX8_both_78 : decode cX8_both 78 = .ok (.iconst (-1), 1) := by decide +kernel
theorem dX8_both_79 : decode cX8_both 79 = .ok (.if_icmp .ne 9, 3) := by decide +kernel
theorem dX8_both_88 : decode cX8_both 88 = .ok (.iload 5, 2) := by decide +kernel
theorem dX8_both_90 : decode cX8_both 90 = .ok (.iastore, 1) := by decide +kernel
theorem dX8_both_91 : decode cX8_both 91 = .ok (.iinc 4 1, 3) := by decide +kernel
theorem dX8_both_94 : decode cX8_both 94 = .ok (.goto (-70), 3) := by decide +kernel
theorem dX8_both_82 : decode cX8_both 82 = .ok (.sipush 1000, 3) := by decide +kernel
theorem dX8_both_85 : decode cX8_both 85 = .ok (.goto 5, 3) := by decide +kernel
theorem dX8_both_9 : decode cX8_both 9 = .ok (.iconst (-1), 1) := by decide +kernel
theorem dX8_both_10 : decode cX8_both 10 = .ok (.ireturn, 1) := by decide +kernel
theorem dX8_ends_0 : decode cX8_ends 0 = .ok (.aload_n 0, 1) := by decide +kernel
theorem dX8_ends_1 : decode cX8_ends 1 = .ok (.iload_n 1, 1) := by decide +kernel
theorem dX8_ends_2 : decode cX8_ends 2 = .ok (.iload_n 2, 1) := by decide +kernel
theorem dX8_ends_3 : decode cX8_ends 3 = .ok (.iload_n 3, 1) := by decide +kernel
theorem dX8_ends_4 : decode cX8_ends 4 = .ok (.invokevirtual 208, 3) := by decide +kernel
theorem dX8_ends_7 : decode cX8_ends 7 = .ok (.ifCond .eq 15, 3) := by decide +kernel
theorem dX8_ends_10 : decode cX8_ends 10 = .ok (.iload 4, 2) := by decide +kernel
theorem dX8_ends_12 : decode cX8_ends 12 = .ok (.iconst 1, 1) := by decide +kernel
theorem dX8_ends_13 : decode cX8_ends 13 = .ok (.sipush 2000, 3) := by decide +kernel
theorem dX8_ends_16 : decode cX8_ends 16 = .ok (.invokestatic 150, 3) := by decide +kernel
theorem dX8_ends_19 : decode cX8_ends 19 = .ok (.ifCond .ne 5, 3) := by decide +kernel
theorem dX8_ends_24 : decode cX8_ends 24 = .ok (.aload_n 0, 1) := by decide +kernel
theorem dX8_ends_25 : decode cX8_ends 25 = .ok (.iload_n 1, 1) := by decide +kernel
theorem dX8_ends_26 : decode cX8_ends 26 = .ok (.iload_n 2, 1) := by decide +kernel
theorem dX8_ends_27 : decode cX8_ends 27 = .ok (.iload_n 3, 1) := by decide +kernel
theorem dX8_ends_28 : decode cX8_ends 28 = .ok (.iconst 0, 1) := by decide +kernel
theorem dX8_ends_29 : decode cX8_ends 29 = .ok (.invokevirtual 215, 3) := by decide +kernel
theorem dX8_ends_32 : decode cX8_ends 32 = .ok (.bipush 10, 2) := by decide +kernel
theorem dX8_ends_34 : decode cX8_ends 34 = .ok (.istore 5, 2) := by decide +kernel
theorem dX8_ends_36 : decode cX8_ends 36 = .ok (.iload 5, 2) := by decide +kernel
theorem dX8_ends_38 : decode cX8_ends 38 = .ok (.sipush 990, 3) := by decide +kernel
theorem dX8_ends_41 : decode cX8_ends 41 = .ok (.if_icmp .gt 58, 3) := by decide +kernel
theorem dX8_ends_99 : decode cX8_ends 99 = .ok (.iconst (-1), 1) := by decide +kernel
theorem dX8_ends_100 : decode cX8_ends 100 = .ok (.ireturn, 1) := by decide +kernel
theorem dX8_ends_44 : decode cX8_ends 44 = .ok (.aload_n 0, 1) := by decide +kernel
theorem dX8_ends_45 : decode cX8_ends 45 = .ok (.getfield 30, 3) := by decide +kernel
theorem dX8_ends_48 : decode cX8_ends 48 = .ok (.getfield 259, 3) := by decide +kernel
theorem dX8_ends_51 : decode cX8_ends 51 = .ok (.aload_n 0, 1) := by decide +kernel
theorem dX8_ends_52 : decode cX8_ends 52 = .ok (.getfield 60, 3) := by decide +kernel
theorem dX8_ends_55 : decode cX8_ends 55 = .ok (.getfield 128, 3) := by decide +kernel
theorem dX8_ends_58 : decode cX8_ends 58 = .ok (.iload_n 2, 1) := by decide +kernel
theorem dX8_ends_59 : decode cX8_ends 59 = .ok (.iaload, 1) := by decide +kernel
theorem dX8_ends_60 : decode cX8_ends 60 = .ok (.aload_n 0, 1) := by decide +kernel
theorem dX8_ends_61 : decode cX8_ends 61 = .ok (.getfield 60, 3) := by decide +kernel
theorem dX8_ends_64 : decode cX8_ends 64 = .ok (.getfield 131, 3) := by decide +kernel
theorem dX8_ends_67 : decode cX8_ends 67 = .ok (.iload_n 2, 1) := by decide +kernel
theorem dX8_ends_68 : decode cX8_ends 68 = .ok (.iaload, 1) := by decide +kernel
theorem dX8_ends_69 : decode cX8_ends 69 = .ok (.iload 5, 2) := by decide +kernel
theorem dX8_ends_71 : decode cX8_ends 71 = .ok (.invokevirtual 137, 3) := by decide +kernel
theorem dX8_ends_74 : decode cX8_ends 74 = .ok (.aload_n 0, 1) := by decide +kernel
theorem dX8_ends_75 : decode cX8_ends 75 = .ok (.getfield 30, 3) := by decide +kernel
theorem dX8_ends_78 : decode cX8_ends 78 = .ok (.aload_n 0, 1) := by decide +kernel
theorem dX8_ends_79 : decode cX8_ends 79 = .ok (.getfield 60, 3) := by decide +kernel
theorem dX8_ends_82 : decode cX8_ends 82 = .ok (.invokevirtual 219, 3) := by decide +kernel
theorem dX8_ends_85 : decode cX8_ends 85 = .ok (.iload 4, 2) := by decide +kernel
theorem dX8_ends_87 : decode cX8_ends 87 = .ok (.if_icmp .ge 6, 3) := by decide +kernel
theorem dX8_ends_93 : decode cX8_ends 93 = .ok (.iinc 5 10, 3) := by decide +kernel
theorem dX8_ends_96 : decode cX8_ends 96 = .ok (.goto (-60), 3) := by decide +kernel
theorem dX8_ends_90 : decode cX8_ends 90 = .ok (.iload 5, 2) := by decide +kernel
theorem dX8_ends_92 : decode cX8_ends 92 = .ok (.ireturn, 1) := by decide +kernel
theorem dX8_ends_22 : decode cX8_ends 22 = .ok (.iconst (-1), 1) := by decide +kernel
theorem dX8_ends_23 : decode cX8_ends 23 = .ok (.ireturn, 1) := by decide +kernel
theorem dX8_change_0 : decode cX8_change 0 = .ok (.aload_n 0, 1) := by decide +kernel
theorem dX8_change_1 : decode cX8_change 1 = .ok (.iload_n 1, 1) := by decide +kernel
theorem dX8_change_2 : decode cX8_change 2 = .ok (.iload_n 2, 1) := by decide +kernel
theorem dX8_change_3 : decode cX8_change 3 = .ok (.iload_n 3, 1) := by decide +kernel
theorem dX8_change_4 : decode cX8_change 4 = .ok (.invokevirtual 208, 3) := by decide +kernel
theorem dX8_change_7 : decode cX8_change 7 = .ok (.ifCond .eq 25, 3) := by decide +kernel
theorem dX8_change_10 : decode cX8_change 10 = .ok (.iload 4, 2) := by decide +kernel
theorem dX8_change_12 : decode cX8_change 12 = .ok (.iconst 1, 1) := by decide +kernel
theorem dX8_change_13 : decode cX8_change 13 = .ok (.sipush 2000, 3) := by decide +kernel
theorem dX8_change_16 : decode cX8_change 16 = .ok (.invokestatic 150, 3) := by decide +kernel
theorem dX8_change_19 : decode cX8_change 19 = .ok (.ifCond .eq 13, 3) := by decide +kernel
theorem dX8_change_22 : decode cX8_change 22 = .ok (.iload 5, 2) := by decide +kernel
theorem dX8_change_24 : decode cX8_change 24 = .ok (.iconst 0, 1) := by decide +kernel
theorem dX8_change_25 : decode cX8_change 25 = .ok (.iconst 1, 1) := by decide +kernel
theorem dX8_change_26 : decode cX8_change 26 = .ok (.invokestatic 150, 3) := by decide +kernel
theorem dX8_change_29 : decode cX8_change 29 = .ok (.ifCond .ne 5, 3) := by decide +kernel
theorem dX8_change_34 : decode cX8_change 34 = .ok (.aload_n 0, 1) := by decide +kernel
theorem dX8_change_35 : decode cX8_change 35 = .ok (.iload_n 1, 1) := by decide +kernel
theorem dX8_change_36 : decode cX8_change 36 = .ok (.iload_n 2, 1) := by decide +kernel
theorem dX8_change_37 : decode cX8_change 37 = .ok (.iload_n 3, 1) := by decide +kernel
theorem dX8_change_38 : decode cX8_change 38 = .ok (.iconst 0, 1) := by decide +kernel
theorem dX8_change_39 : decode cX8_change 39 = .ok (.invokevirtual 215, 3) := by decide +kernel
theorem dX8_change_42 : decode cX8_change 42 = .ok (.iload 5, 2) := by decide +kernel
theorem dX8_change_44 : decode cX8_change 44 = .ok (.ifCond .ne 13, 3) := by decide +kernel
theorem dX8_change_57 : decode cX8_change 57 = .ok (.aload_n 0, 1) := by decide +kernel
theorem dX8_change_58 : decode cX8_change 58 = .ok (.getfield 30, 3) := by decide +kernel
theorem dX8_change_61 : decode cX8_change 61 = .ok (.getfield 228, 3) := by decide +kernel
theorem dX8_change_64 : decode cX8_change 64 = .ok (.astore 6, 2) := by decide +kernel
theorem dX8_change_66 : decode cX8_change 66 = .ok (.aload_n 0, 1) := by decide +kernel
theorem dX8_change_67 : decode cX8_change 67 = .ok (.getfield 30, 3) := by decide +kernel
theorem dX8_change_70 : decode cX8_change 70 = .ok (.aload 6, 2) := by decide +kernel
theorem dX8_change_72 : decode cX8_change 72 = .ok (.invokevirtual 266, 3) := by decide +kernel
theorem dX8_change_75 : decode cX8_change 75 = .ok (.istore 7, 2) := by decide +kernel
theorem dX8_change_77 : decode cX8_change 77 = .ok (.iconst 0, 1) := by decide +kernel
theorem dX8_change_78 : decode cX8_change 78 = .ok (.istore 8, 2) := by decide +kernel
theorem dX8_change_80 : decode cX8_change 80 = .ok (.iload 8, 2) := by decide +kernel
theorem dX8_change_82 : decode cX8_change 82 = .ok (.iload 7, 2) := by decide +kernel
theorem dX8_change_84 : decode cX8_change 84 = .ok (.if_icmp .gt 38, 3) := by decide +kernel
theorem dX8_change_122 : decode cX8_change 122 = .ok (.iconst (-1), 1) := by decide +kernel
theorem dX8_change_123 : decode cX8_change 123 = .ok (.ireturn, 1) := by decide +kernel
theorem dX8_change_87 : decode cX8_change 87 = .ok (.aload_n 0, 1) := by decide +kernel
theorem dX8_change_88 : decode cX8_change 88 = .ok (.getfield 30, 3) := by decide +kernel
theorem dX8_change_91 : decode cX8_change 91 = .ok (.aload_n 0, 1) := by decide +kernel
theorem dX8_change_92 : decode cX8_change 92 = .ok (.getfield 60, 3) := by decide +kernel
theorem dX8_change_95 : decode cX8_change 95 = .ok (.invokevirtual 219, 3) := by decide +kernel
theorem dX8_change_98 : decode cX8_change 98 = .ok (.iload 4, 2) := by decide +kernel
theorem dX8_change_100 : decode cX8_change 100 = .ok (.if_icmp .lt 6, 3) := by decide +kernel
theorem dX8_change_106 : decode cX8_change 106 = .ok (.aload_n 0, 1) := by decide +kernel
theorem dX8_change_107 : decode cX8_change 107 = .ok (.getfield 30, 3) := by decide +kernel
theorem dX8_change_110 : decode cX8_change 110 = .ok (.aload 6, 2) := by decide +kernel
theorem dX8_change_112 : decode cX8_change 112 = .ok (.iconst 1, 1) := by decide +kernel
theorem dX8_change_113 : decode cX8_change 113 = .ok (.invokevirtual 230, 3) := by decide +kernel
theorem dX8_change_116 : decode cX8_change 116 = .ok (.iinc 8 1, 3) := by decide +kernel
theorem dX8_change_119 : decode cX8_change 119 = .ok (.goto (-39), 3) := by decide +kernel
theorem dX8_change_103 : decode cX8_change 103 = .ok (.iload 8, 2) := by decide +kernel
theorem dX8_change_105 : decode cX8_change 105 = .ok (.ireturn, 1) := by decide +kernel
theorem dX8_change_47 : decode cX8_change 47 = .ok (.aload_n 0, 1) := by decide +kernel
theorem dX8_change_48 : decode cX8_change 48 = .ok (.getfield 30, 3) := by decide +kernel
theorem dX8_change_51 : decode cX8_change 51 = .ok (.getfield 226, 3) := by decide +kernel
theorem dX8_change_54 : decode cX8_change 54 = .ok (.goto 10, 3) := by decide +kernel
theorem dX8_change_32 : decode cX8_change 32 = .ok (.iconst (-1), 1) := by decide +kernel
theorem dX8_change_33 : decode cX8_change 33 = .ok (.ireturn, 1) := by decide +kernel
theorem dX8_pairsThatLet_0 : decode cX8_pairsThatLet 0 = .ok (.iconst 0, 1) := by decide +kernel
theorem dX8_pairsThatLet_1 : decode cX8_pairsThatLet 1 = .ok (.istore 4, 2) := by decide +kernel
theorem dX8_pairsThatLet_3 : decode cX8_pairsThatLet 3 = .ok (.iconst 0, 1) := by decide +kernel
theorem dX8_pairsThatLet_4 : decode cX8_pairsThatLet 4 = .ok (.istore 5, 2) := by decide +kernel
theorem dX8_pairsThatLet_6 : decode cX8_pairsThatLet 6 = .ok (.iload 5, 2) := by decide +kernel
theorem dX8_pairsThatLet_8 : decode cX8_pairsThatLet 8 = .ok (.bipush 12, 2) := by decide +kernel
theorem dX8_pairsThatLet_10 : decode cX8_pairsThatLet 10 = .ok (.if_icmp .ge 91, 3) := by decide +kernel
theorem dX8_pairsThatLet_101 : decode cX8_pairsThatLet 101 = .ok (.iload 4, 2) := by decide +kernel
theorem dX8_pairsThatLet_103 : decode cX8_pairsThatLet 103 = .ok (.ireturn, 1) := by decide +kernel
theorem dX8_pairsThatLet_13 : decode cX8_pairsThatLet 13 = .ok (.aload_n 0, 1) := by decide +kernel
theorem dX8_pairsThatLet_14 : decode cX8_pairsThatLet 14 = .ok (.getfield 60, 3) := by decide +kernel
theorem dX8_pairsThatLet_17 : decode cX8_pairsThatLet 17 = .ok (.iload 5, 2) := by decide +kernel
theorem dX8_pairsThatLet_19 : decode cX8_pairsThatLet 19 = .ok (.invokevirtual 281, 3) := by decide +kernel
theorem dX8_pairsThatLet_22 : decode cX8_pairsThatLet 22 = .ok (.ifCond .eq 73, 3) := by decide +kernel
theorem dX8_pairsThatLet_25 : decode cX8_pairsThatLet 25 = .ok (.aload_n 0, 1) := by decide +kernel
theorem dX8_pairsThatLet_26 : decode cX8_pairsThatLet 26 = .ok (.aload_n 0, 1) := by decide +kernel
theorem dX8_pairsThatLet_27 : decode cX8_pairsThatLet 27 = .ok (.getfield 37, 3) := by decide +kernel
theorem dX8_pairsThatLet_30 : decode cX8_pairsThatLet 30 = .ok (.getfield 285, 3) := by decide +kernel
theorem dX8_pairsThatLet_33 : decode cX8_pairsThatLet 33 = .ok (.iload_n 1, 1) := by decide +kernel
theorem dX8_pairsThatLet_34 : decode cX8_pairsThatLet 34 = .ok (.iaload, 1) := by decide +kernel
theorem dX8_pairsThatLet_35 : decode cX8_pairsThatLet 35 = .ok (.aload_n 0, 1) := by decide +kernel
theorem dX8_pairsThatLet_36 : decode cX8_pairsThatLet 36 = .ok (.getfield 37, 3) := by decide +kernel
theorem dX8_pairsThatLet_39 : decode cX8_pairsThatLet 39 = .ok (.getfield 288, 3) := by decide +kernel
theorem dX8_pairsThatLet_42 : decode cX8_pairsThatLet 42 = .ok (.iload_n 1, 1) := by decide +kernel
theorem dX8_pairsThatLet_43 : decode cX8_pairsThatLet 43 = .ok (.iaload, 1) := by decide +kernel
theorem dX8_pairsThatLet_44 : decode cX8_pairsThatLet 44 = .ok (.iload 5, 2) := by decide +kernel
theorem dX8_pairsThatLet_46 : decode cX8_pairsThatLet 46 = .ok (.invokevirtual 290, 3) := by decide +kernel
theorem dX8_pairsThatLet_49 : decode cX8_pairsThatLet 49 = .ok (.aload_n 0, 1) := by decide +kernel
theorem dX8_pairsThatLet_50 : decode cX8_pairsThatLet 50 = .ok (.getfield 30, 3) := by decide +kernel
theorem dX8_pairsThatLet_53 : decode cX8_pairsThatLet 53 = .ok (.aload_n 0, 1) := by decide +kernel
theorem dX8_pairsThatLet_54 : decode cX8_pairsThatLet 54 = .ok (.getfield 60, 3) := by decide +kernel
theorem dX8_pairsThatLet_57 : decode cX8_pairsThatLet 57 = .ok (.aload_n 0, 1) := by decide +kernel
theorem dX8_pairsThatLet_58 : decode cX8_pairsThatLet 58 = .ok (.getfield 37, 3) := by decide +kernel
theorem dX8_pairsThatLet_61 : decode cX8_pairsThatLet 61 = .ok (.getfield 293, 3) := by decide +kernel
theorem dX8_pairsThatLet_64 : decode cX8_pairsThatLet 64 = .ok (.iload_n 1, 1) := by decide +kernel
theorem dX8_pairsThatLet_65 : decode cX8_pairsThatLet 65 = .ok (.iaload, 1) := by decide +kernel
theorem dX8_pairsThatLet_66 : decode cX8_pairsThatLet 66 = .ok (.invokevirtual 294, 3) := by decide +kernel
theorem dX8_pairsThatLet_69 : decode cX8_pairsThatLet 69 = .ok (.iload_n 2, 1) := by decide +kernel
theorem dX8_pairsThatLet_70 : decode cX8_pairsThatLet 70 = .ok (.isub, 1) := by decide +kernel
theorem dX8_pairsThatLet_71 : decode cX8_pairsThatLet 71 = .ok (.istore 6, 2) := by decide +kernel
theorem dX8_pairsThatLet_73 : decode cX8_pairsThatLet 73 = .ok (.iload 4, 2) := by decide +kernel
theorem dX8_pairsThatLet_75 : decode cX8_pairsThatLet 75 = .ok (.iload 6, 2) := by decide +kernel
theorem dX8_pairsThatLet_77 : decode cX8_pairsThatLet 77 = .ok (.invokestatic 298, 3) := by decide +kernel
theorem dX8_pairsThatLet_80 : decode cX8_pairsThatLet 80 = .ok (.iload_n 3, 1) := by decide +kernel
theorem dX8_pairsThatLet_81 : decode cX8_pairsThatLet 81 = .ok (.if_icmp .gt 10, 3) := by decide +kernel
theorem dX8_pairsThatLet_91 : decode cX8_pairsThatLet 91 = .ok (.iconst 0, 1) := by decide +kernel
theorem dX8_pairsThatLet_92 : decode cX8_pairsThatLet 92 = .ok (.ior, 1) := by decide +kernel
theorem dX8_pairsThatLet_93 : decode cX8_pairsThatLet 93 = .ok (.istore 4, 2) := by decide +kernel
theorem dX8_pairsThatLet_95 : decode cX8_pairsThatLet 95 = .ok (.iinc 5 1, 3) := by decide +kernel
theorem dX8_pairsThatLet_98 : decode cX8_pairsThatLet 98 = .ok (.goto (-92), 3) := by decide +kernel
theorem dX8_pairsThatLet_84 : decode cX8_pairsThatLet 84 = .ok (.iconst 1, 1) := by decide +kernel
theorem dX8_pairsThatLet_85 : decode cX8_pairsThatLet 85 = .ok (.iload 5, 2) := by decide +kernel
theorem dX8_pairsThatLet_87 : decode cX8_pairsThatLet 87 = .ok (.ishl, 1) := by decide +kernel
theorem dX8_pairsThatLet_88 : decode cX8_pairsThatLet 88 = .ok (.goto 4, 3) := by decide +kernel
theorem dX8_film_0 : decode cX8_film 0 = .ok (.aload_n 0, 1) := by decide +kernel
theorem dX8_film_1 : decode cX8_film 1 = .ok (.getfield 37, 3) := by decide +kernel
theorem dX8_film_4 : decode cX8_film 4 = .ok (.getfield 90, 3) := by decide +kernel
theorem dX8_film_7 : decode cX8_film 7 = .ok (.bipush 40, 2) := by decide +kernel
theorem dX8_film_9 : decode cX8_film 9 = .ok (.if_icmp .ge 27, 3) := by decide +kernel
theorem dX8_film_36 : decode cX8_film 36 = .ok (.iconst (-1), 1) := by decide +kernel
theorem dX8_film_37 : decode cX8_film 37 = .ok (.ireturn, 1) := by decide +kernel
theorem dX8_film_12 : decode cX8_film 12 = .ok (.aload_n 0, 1) := by decide +kernel
theorem dX8_film_13 : decode cX8_film 13 = .ok (.getfield 60, 3) := by decide +kernel
theorem dX8_film_16 : decode cX8_film 16 = .ok (.iconst 0, 1) := by decide +kernel
theorem dX8_film_17 : decode cX8_film 17 = .ok (.iload_n 1, 1) := by decide +kernel
theorem dX8_film_18 : decode cX8_film 18 = .ok (.invokevirtual 104, 3) := by decide +kernel
theorem dX8_film_21 : decode cX8_film 21 = .ok (.ifCond .eq 15, 3) := by decide +kernel
theorem dX8_film_24 : decode cX8_film 24 = .ok (.aload_n 0, 1) := by decide +kernel
theorem dX8_film_25 : decode cX8_film 25 = .ok (.getfield 60, 3) := by decide +kernel
theorem dX8_film_28 : decode cX8_film 28 = .ok (.iconst 2, 1) := by decide +kernel
theorem dX8_film_29 : decode cX8_film 29 = .ok (.iload_n 2, 1) := by decide +kernel
theorem dX8_film_30 : decode cX8_film 30 = .ok (.invokevirtual 104, 3) := by decide +kernel
theorem dX8_film_33 : decode cX8_film 33 = .ok (.ifCond .ne 5, 3) := by decide +kernel
theorem dX8_film_38 : decode cX8_film 38 = .ok (.iload_n 3, 1) := by decide +kernel
theorem dX8_film_39 : decode cX8_film 39 = .ok (.iconst 1, 1) := by decide +kernel
theorem dX8_film_40 : decode cX8_film 40 = .ok (.sipush 500, 3) := by decide +kernel
theorem dX8_film_43 : decode cX8_film 43 = .ok (.invokestatic 150, 3) := by decide +kernel
theorem dX8_film_46 : decode cX8_film 46 = .ok (.ifCond .eq 27, 3) := by decide +kernel
theorem dX8_film_49 : decode cX8_film 49 = .ok (.iload 4, 2) := by decide +kernel
theorem dX8_film_51 : decode cX8_film 51 = .ok (.iconst 0, 1) := by decide +kernel
theorem dX8_film_52 : decode cX8_film 52 = .ok (.sipush 29999, 3) := by decide +kernel
theorem dX8_film_55 : decode cX8_film 55 = .ok (.invokestatic 150, 3) := by decide +kernel
theorem dX8_film_58 : decode cX8_film 58 = .ok (.ifCond .eq 15, 3) := by decide +kernel
theorem dX8_film_61 : decode cX8_film 61 = .ok (.iload 5, 2) := by decide +kernel
theorem dX8_film_63 : decode cX8_film 63 = .ok (.iconst 0, 1) := by decide +kernel
theorem dX8_film_64 : decode cX8_film 64 = .ok (.sipush 999, 3) := by decide +kernel
theorem dX8_film_67 : decode cX8_film 67 = .ok (.invokestatic 150, 3) := by decide +kernel
theorem dX8_film_70 : decode cX8_film 70 = .ok (.ifCond .ne 5, 3) := by decide +kernel
theorem dX8_film_75 : decode cX8_film 75 = .ok (.aload_n 0, 1) := by decide +kernel
theorem dX8_film_76 : decode cX8_film 76 = .ok (.getfield 37, 3) := by decide +kernel
theorem dX8_film_79 : decode cX8_film 79 = .ok (.iload_n 1, 1) := by decide +kernel
theorem dX8_film_80 : decode cX8_film 80 = .ok (.iload_n 2, 1) := by decide +kernel
theorem dX8_film_81 : decode cX8_film 81 = .ok (.iload_n 3, 1) := by decide +kernel
theorem dX8_film_82 : decode cX8_film 82 = .ok (.aload_n 0, 1) := by decide +kernel
theorem dX8_film_83 : decode cX8_film 83 = .ok (.getfield 75, 3) := by decide +kernel
theorem dX8_film_86 : decode cX8_film 86 = .ok (.invokevirtual 270, 3) := by decide +kernel
theorem dX8_film_89 : decode cX8_film 89 = .ok (.istore 6, 2) := by decide +kernel
theorem dX8_film_91 : decode cX8_film 91 = .ok (.aload_n 0, 1) := by decide +kernel
theorem dX8_film_92 : decode cX8_film 92 = .ok (.getfield 37, 3) := by decide +kernel
theorem dX8_film_95 : decode cX8_film 95 = .ok (.getfield 274, 3) := by decide +kernel
theorem dX8_film_98 : decode cX8_film 98 = .ok (.iload 6, 2) := by decide +kernel
theorem dX8_film_100 : decode cX8_film 100 = .ok (.aload_n 0, 1) := by decide +kernel
theorem dX8_film_101 : decode cX8_film 101 = .ok (.iload 6, 2) := by decide +kernel
theorem dX8_film_103 : decode cX8_film 103 = .ok (.iload 4, 2) := by decide +kernel
theorem dX8_film_105 : decode cX8_film 105 = .ok (.iload 5, 2) := by decide +kernel
theorem dX8_film_107 : decode cX8_film 107 = .ok (.invokevirtual 277, 3) := by decide +kernel
theorem dX8_film_110 : decode cX8_film 110 = .ok (.iastore, 1) := by decide +kernel
theorem dX8_film_111 : decode cX8_film 111 = .ok (.iload 6, 2) := by decide +kernel
theorem dX8_film_113 : decode cX8_film 113 = .ok (.ireturn, 1) := by decide +kernel
theorem dX8_film_73 : decode cX8_film 73 = .ok (.iconst (-1), 1) := by decide +kernel
theorem dX8_film_74 : decode cX8_film 74 = .ok (.ireturn, 1) := by decide +kernel
theorem dX8_untell_0 : decode cX8_untell 0 = .ok (.iload_n 1, 1) := by decide +kernel
theorem dX8_untell_1 : decode cX8_untell 1 = .ok (.iconst 0, 1) := by decide +kernel
theorem dX8_untell_2 : decode cX8_untell 2 = .ok (.aload_n 0, 1) := by decide +kernel
theorem dX8_untell_3 : decode cX8_untell 3 = .ok (.getfield 37, 3) := by decide +kernel
theorem dX8_untell_6 : decode cX8_untell 6 = .ok (.getfield 90, 3) := by decide +kernel
theorem dX8_untell_9 : decode cX8_untell 9 = .ok (.iconst 1, 1) := by decide +kernel
theorem dX8_untell_10 : decode cX8_untell 10 = .ok (.isub, 1) := by decide +kernel
theorem dX8_untell_11 : decode cX8_untell 11 = .ok (.invokestatic 150, 3) := by decide +kernel
theorem dX8_untell_14 : decode cX8_untell 14 = .ok (.ifCond .eq 15, 3) := by decide +kernel
theorem dX8_untell_17 : decode cX8_untell 17 = .ok (.aload_n 0, 1) := by decide +kernel
theorem dX8_untell_18 : decode cX8_untell 18 = .ok (.getfield 37, 3) := by decide +kernel
theorem dX8_untell_21 : decode cX8_untell 21 = .ok (.getfield 301, 3) := by decide +kernel
theorem dX8_untell_24 : decode cX8_untell 24 = .ok (.iload_n 1, 1) := by decide +kernel
theorem dX8_untell_25 : decode cX8_untell 25 = .ok (.baload, 1) := by decide +kernel
theorem dX8_untell_26 : decode cX8_untell 26 = .ok (.ifCond .eq 5, 3) := by decide +kernel
theorem dX8_untell_31 : decode cX8_untell 31 = .ok (.aload_n 0, 1) := by decide +kernel
theorem dX8_untell_32 : decode cX8_untell 32 = .ok (.getfield 37, 3) := by decide +kernel
theorem dX8_untell_35 : decode cX8_untell 35 = .ok (.getfield 301, 3) := by decide +kernel
theorem dX8_untell_38 : decode cX8_untell 38 = .ok (.iload_n 1, 1) := by decide +kernel
theorem dX8_untell_39 : decode cX8_untell 39 = .ok (.iconst 1, 1) := by decide +kernel
theorem dX8_untell_40 : decode cX8_untell 40 = .ok (.bastore, 1) := by decide +kernel
theorem dX8_untell_41 : decode cX8_untell 41 = .ok (.aload_n 0, 1) := by decide +kernel
theorem dX8_untell_42 : decode cX8_untell 42 = .ok (.getfield 37, 3) := by decide +kernel
theorem dX8_untell_45 : decode cX8_untell 45 = .ok (.getfield 305, 3) := by decide +kernel
theorem dX8_untell_48 : decode cX8_untell 48 = .ok (.iload_n 1, 1) := by decide +kernel
theorem dX8_untell_49 : decode cX8_untell 49 = .ok (.aload_n 0, 1) := by decide +kernel
theorem dX8_untell_50 : decode cX8_untell 50 = .ok (.getfield 75, 3) := by decide +kernel
theorem dX8_untell_53 : decode cX8_untell 53 = .ok (.iastore, 1) := by decide +kernel
theorem dX8_untell_54 : decode cX8_untell 54 = .ok (.iconst 1, 1) := by decide +kernel
theorem dX8_untell_55 : decode cX8_untell 55 = .ok (.ireturn, 1) := by decide +kernel
theorem dX8_untell_29 : decode cX8_untell 29 = .ok (.iconst 0, 1) := by decide +kernel
theorem dX8_untell_30 : decode cX8_untell 30 = .ok (.ireturn, 1) := by decide +kernel
theorem dX8_fits_0 : decode cX8_fits 0 = .ok (.iconst 0, 1) := by decide +kernel
theorem dX8_fits_1 : decode cX8_fits 1 = .ok (.istore_n 2, 1) := by decide +kernel
theorem dX8_fits_2 : decode cX8_fits 2 = .ok (.iconst 0, 1) := by decide +kernel
theorem dX8_fits_3 : decode cX8_fits 3 = .ok (.istore_n 3, 1) := by decide +kernel
theorem dX8_fits_4 : decode cX8_fits 4 = .ok (.iload_n 3, 1) := by decide +kernel
theorem dX8_fits_5 : decode cX8_fits 5 = .ok (.bipush 12, 2) := by decide +kernel
theorem dX8_fits_7 : decode cX8_fits 7 = .ok (.if_icmp .ge 30, 3) := by decide +kernel
theorem dX8_fits_37 : decode cX8_fits 37 = .ok (.iconst 0, 1) := by decide +kernel
theorem dX8_fits_38 : decode cX8_fits 38 = .ok (.istore_n 3, 1) := by decide +kernel
theorem dX8_fits_39 : decode cX8_fits 39 = .ok (.iload_n 3, 1) := by decide +kernel
theorem dX8_fits_40 : decode cX8_fits 40 = .ok (.aload_n 0, 1) := by decide +kernel
theorem dX8_fits_41 : decode cX8_fits 41 = .ok (.getfield 37, 3) := by decide +kernel
theorem dX8_fits_44 : decode cX8_fits 44 = .ok (.getfield 90, 3) := by decide +kernel
theorem dX8_fits_47 : decode cX8_fits 47 = .ok (.if_icmp .ge 33, 3) := by decide +kernel
theorem dX8_fits_80 : decode cX8_fits 80 = .ok (.iload_n 2, 1) := by decide +kernel
theorem dX8_fits_81 : decode cX8_fits 81 = .ok (.ireturn, 1) := by decide +kernel
theorem dX8_fits_50 : decode cX8_fits 50 = .ok (.aload_n 0, 1) := by decide +kernel
theorem dX8_fits_51 : decode cX8_fits 51 = .ok (.getfield 37, 3) := by decide +kernel
theorem dX8_fits_54 : decode cX8_fits 54 = .ok (.iload_n 3, 1) := by decide +kernel
theorem dX8_fits_55 : decode cX8_fits 55 = .ok (.iload_n 1, 1) := by decide +kernel
theorem dX8_fits_56 : decode cX8_fits 56 = .ok (.invokevirtual 308, 3) := by decide +kernel
theorem dX8_fits_59 : decode cX8_fits 59 = .ok (.ifCond .eq 15, 3) := by decide +kernel
theorem dX8_fits_62 : decode cX8_fits 62 = .ok (.iload_n 2, 1) := by decide +kernel
theorem dX8_fits_63 : decode cX8_fits 63 = .ok (.aload_n 0, 1) := by decide +kernel
theorem dX8_fits_64 : decode cX8_fits 64 = .ok (.getfield 37, 3) := by decide +kernel
theorem dX8_fits_67 : decode cX8_fits 67 = .ok (.getfield 274, 3) := by decide +kernel
theorem dX8_fits_70 : decode cX8_fits 70 = .ok (.iload_n 3, 1) := by decide +kernel
theorem dX8_fits_71 : decode cX8_fits 71 = .ok (.iaload, 1) := by decide +kernel
theorem dX8_fits_72 : decode cX8_fits 72 = .ok (.iand, 1) := by decide +kernel
theorem dX8_fits_73 : decode cX8_fits 73 = .ok (.istore_n 2, 1) := by decide +kernel
theorem dX8_fits_74 : decode cX8_fits 74 = .ok (.iinc 3 1, 3) := by decide +kernel
theorem dX8_fits_77 : decode cX8_fits 77 = .ok (.goto (-38), 3) := by decide +kernel
theorem dX8_fits_10 : decode cX8_fits 10 = .ok (.iload_n 2, 1) := by decide +kernel
theorem dX8_fits_11 : decode cX8_fits 11 = .ok (.aload_n 0, 1) := by decide +kernel
theorem dX8_fits_12 : decode cX8_fits 12 = .ok (.getfield 60, 3) := by decide +kernel
theorem dX8_fits_15 : decode cX8_fits 15 = .ok (.iload_n 3, 1) := by decide +kernel
theorem dX8_fits_16 : decode cX8_fits 16 = .ok (.invokevirtual 281, 3) := by decide +kernel
theorem dX8_fits_19 : decode cX8_fits 19 = .ok (.ifCond .eq 9, 3) := by decide +kernel
theorem dX8_fits_22 : decode cX8_fits 22 = .ok (.iconst 1, 1) := by decide +kernel
theorem dX8_fits_23 : decode cX8_fits 23 = .ok (.iload_n 3, 1) := by decide +kernel
theorem dX8_fits_24 : decode cX8_fits 24 = .ok (.ishl, 1) := by decide +kernel
theorem dX8_fits_25 : decode cX8_fits 25 = .ok (.goto 4, 3) := by decide +kernel
theorem dX8_fits_29 : decode cX8_fits 29 = .ok (.ior, 1) := by decide +kernel
theorem dX8_fits_30 : decode cX8_fits 30 = .ok (.istore_n 2, 1) := by decide +kernel
theorem dX8_fits_31 : decode cX8_fits 31 = .ok (.iinc 3 1, 3) := by decide +kernel
theorem dX8_fits_34 : decode cX8_fits 34 = .ok (.goto (-30), 3) := by decide +kernel
theorem dX8_fits_28 : decode cX8_fits 28 = .ok (.iconst 0, 1) := by decide +kernel
theorem dX8_isAmong_0 : decode cX8_isAmong 0 = .ok (.iconst 0, 1) := by decide +kernel
theorem dX8_isAmong_1 : decode cX8_isAmong 1 = .ok (.istore_n 3, 1) := by decide +kernel
theorem dX8_isAmong_2 : decode cX8_isAmong 2 = .ok (.iload_n 3, 1) := by decide +kernel
theorem dX8_isAmong_3 : decode cX8_isAmong 3 = .ok (.iload_n 2, 1) := by decide +kernel
theorem dX8_isAmong_4 : decode cX8_isAmong 4 = .ok (.if_icmp .ge 21, 3) := by decide +kernel
theorem dX8_isAmong_25 : decode cX8_isAmong 25 = .ok (.iconst 0, 1) := by decide +kernel
theorem dX8_isAmong_26 : decode cX8_isAmong 26 = .ok (.ireturn, 1) := by decide +kernel
theorem dX8_isAmong_7 : decode cX8_isAmong 7 = .ok (.aload_n 0, 1) := by decide +kernel
theorem dX8_isAmong_8 : decode cX8_isAmong 8 = .ok (.getfield 49, 3) := by decide +kernel
theorem dX8_isAmong_11 : decode cX8_isAmong 11 = .ok (.iload_n 3, 1) := by decide +kernel
theorem dX8_isAmong_12 : decode cX8_isAmong 12 = .ok (.iaload, 1) := by decide +kernel
theorem dX8_isAmong_13 : decode cX8_isAmong 13 = .ok (.iload_n 1, 1) := by decide +kernel
theorem dX8_isAmong_14 : decode cX8_isAmong 14 = .ok (.if_icmp .ne 5, 3) := by decide +kernel
theorem dX8_isAmong_19 : decode cX8_isAmong 19 = .ok (.iinc 3 1, 3) := by decide +kernel
theorem dX8_isAmong_22 : decode cX8_isAmong 22 = .ok (.goto (-20), 3) := by decide +kernel
theorem dX8_isAmong_17 : decode cX8_isAmong 17 = .ok (.iconst 1, 1) := by decide +kernel
theorem dX8_isAmong_18 : decode cX8_isAmong 18 = .ok (.ireturn, 1) := by decide +kernel
theorem dX8_unlikeLengths_0 : decode cX8_unlikeLengths 0 = .ok (.iconst 0, 1) := by decide +kernel
theorem dX8_unlikeLengths_1 : decode cX8_unlikeLengths 1 = .ok (.istore 5, 2) := by decide +kernel
theorem dX8_unlikeLengths_3 : decode cX8_unlikeLengths 3 = .ok (.iconst 0, 1) := by decide +kernel
theorem dX8_unlikeLengths_4 : decode cX8_unlikeLengths 4 = .ok (.istore 6, 2) := by decide +kernel
theorem dX8_unlikeLengths_6 : decode cX8_unlikeLengths 6 = .ok (.iload 6, 2) := by decide +kernel
theorem dX8_unlikeLengths_8 : decode cX8_unlikeLengths 8 = .ok (.bipush 12, 2) := by decide +kernel
theorem dX8_unlikeLengths_10 : decode cX8_unlikeLengths 10 = .ok (.if_icmp .ge 65, 3) := by decide +kernel
theorem dX8_unlikeLengths_75 : decode cX8_unlikeLengths 75 = .ok (.iload 5, 2) := by decide +kernel
theorem dX8_unlikeLengths_77 : decode cX8_unlikeLengths 77 = .ok (.ireturn, 1) := by decide +kernel
theorem dX8_unlikeLengths_13 : decode cX8_unlikeLengths 13 = .ok (.iload 4, 2) := by decide +kernel
theorem dX8_unlikeLengths_15 : decode cX8_unlikeLengths 15 = .ok (.iload 6, 2) := by decide +kernel
theorem dX8_unlikeLengths_17 : decode cX8_unlikeLengths 17 = .ok (.ishr, 1) := by decide +kernel
theorem dX8_unlikeLengths_18 : decode cX8_unlikeLengths 18 = .ok (.iconst 1, 1) := by decide +kernel
theorem dX8_unlikeLengths_19 : decode cX8_unlikeLengths 19 = .ok (.iand, 1) := by decide +kernel
theorem dX8_unlikeLengths_20 : decode cX8_unlikeLengths 20 = .ok (.iconst 1, 1) := by decide +kernel
theorem dX8_unlikeLengths_21 : decode cX8_unlikeLengths 21 = .ok (.if_icmp .ne 48, 3) := by decide +kernel
theorem dX8_unlikeLengths_69 : decode cX8_unlikeLengths 69 = .ok (.iinc 6 1, 3) := by decide +kernel
theorem dX8_unlikeLengths_72 : decode cX8_unlikeLengths 72 = .ok (.goto (-66), 3) := by decide +kernel
theorem dX8_unlikeLengths_24 : decode cX8_unlikeLengths 24 = .ok (.aload_n 0, 1) := by decide +kernel
theorem dX8_unlikeLengths_25 : decode cX8_unlikeLengths 25 = .ok (.iload_n 1, 1) := by decide +kernel
theorem dX8_unlikeLengths_26 : decode cX8_unlikeLengths 26 = .ok (.iload_n 2, 1) := by decide +kernel
theorem dX8_unlikeLengths_27 : decode cX8_unlikeLengths 27 = .ok (.iload 6, 2) := by decide +kernel
theorem dX8_unlikeLengths_29 : decode cX8_unlikeLengths 29 = .ok (.invokevirtual 290, 3) := by decide +kernel
theorem dX8_unlikeLengths_32 : decode cX8_unlikeLengths 32 = .ok (.aload_n 0, 1) := by decide +kernel
theorem dX8_unlikeLengths_33 : decode cX8_unlikeLengths 33 = .ok (.getfield 30, 3) := by decide +kernel
theorem dX8_unlikeLengths_36 : decode cX8_unlikeLengths 36 = .ok (.aload_n 0, 1) := by decide +kernel
theorem dX8_unlikeLengths_37 : decode cX8_unlikeLengths 37 = .ok (.getfield 60, 3) := by decide +kernel
theorem dX8_unlikeLengths_40 : decode cX8_unlikeLengths 40 = .ok (.iload_n 3, 1) := by decide +kernel
theorem dX8_unlikeLengths_41 : decode cX8_unlikeLengths 41 = .ok (.invokevirtual 294, 3) := by decide +kernel
theorem dX8_unlikeLengths_44 : decode cX8_unlikeLengths 44 = .ok (.istore 7, 2) := by decide +kernel
theorem dX8_unlikeLengths_46 : decode cX8_unlikeLengths 46 = .ok (.aload_n 0, 1) := by decide +kernel
theorem dX8_unlikeLengths_47 : decode cX8_unlikeLengths 47 = .ok (.iload 7, 2) := by decide +kernel
theorem dX8_unlikeLengths_49 : decode cX8_unlikeLengths 49 = .ok (.iload 5, 2) := by decide +kernel
theorem dX8_unlikeLengths_51 : decode cX8_unlikeLengths 51 = .ok (.invokevirtual 317, 3) := by decide +kernel
theorem dX8_unlikeLengths_54 : decode cX8_unlikeLengths 54 = .ok (.ifCond .ne 15, 3) := by decide +kernel
theorem dX8_unlikeLengths_57 : decode cX8_unlikeLengths 57 = .ok (.aload_n 0, 1) := by decide +kernel
theorem dX8_unlikeLengths_58 : decode cX8_unlikeLengths 58 = .ok (.getfield 49, 3) := by decide +kernel
theorem dX8_unlikeLengths_61 : decode cX8_unlikeLengths 61 = .ok (.iload 5, 2) := by decide +kernel
theorem dX8_unlikeLengths_63 : decode cX8_unlikeLengths 63 = .ok (.iload 7, 2) := by decide +kernel
theorem dX8_unlikeLengths_65 : decode cX8_unlikeLengths 65 = .ok (.iastore, 1) := by decide +kernel
theorem dX8_unlikeLengths_66 : decode cX8_unlikeLengths 66 = .ok (.iinc 5 1, 3) := by decide +kernel
theorem dX8_parts_0 : decode cX8_parts 0 = .ok (.aload_n 0, 1) := by decide +kernel
theorem dX8_parts_1 : decode cX8_parts 1 = .ok (.getfield 60, 3) := by decide +kernel
theorem dX8_parts_4 : decode cX8_parts 4 = .ok (.iconst 0, 1) := by decide +kernel
theorem dX8_parts_5 : decode cX8_parts 5 = .ok (.iload_n 1, 1) := by decide +kernel
theorem dX8_parts_6 : decode cX8_parts 6 = .ok (.invokevirtual 104, 3) := by decide +kernel
theorem dX8_parts_9 : decode cX8_parts 9 = .ok (.ifCond .eq 23, 3) := by decide +kernel
theorem dX8_parts_12 : decode cX8_parts 12 = .ok (.iload_n 2, 1) := by decide +kernel
theorem dX8_parts_13 : decode cX8_parts 13 = .ok (.iconst 1, 1) := by decide +kernel
theorem dX8_parts_14 : decode cX8_parts 14 = .ok (.sipush 500, 3) := by decide +kernel
theorem dX8_parts_17 : decode cX8_parts 17 = .ok (.invokestatic 150, 3) := by decide +kernel
theorem dX8_parts_20 : decode cX8_parts 20 = .ok (.ifCond .eq 12, 3) := by decide +kernel
theorem dX8_parts_23 : decode cX8_parts 23 = .ok (.iload_n 3, 1) := by decide +kernel
theorem dX8_parts_24 : decode cX8_parts 24 = .ok (.iconst 0, 1) := by decide +kernel
theorem dX8_parts_25 : decode cX8_parts 25 = .ok (.iconst 1, 1) := by decide +kernel
theorem dX8_parts_26 : decode cX8_parts 26 = .ok (.invokestatic 150, 3) := by decide +kernel
theorem dX8_parts_29 : decode cX8_parts 29 = .ok (.ifCond .ne 5, 3) := by decide +kernel
theorem dX8_parts_34 : decode cX8_parts 34 = .ok (.aload_n 0, 1) := by decide +kernel
theorem dX8_parts_35 : decode cX8_parts 35 = .ok (.iload 4, 2) := by decide +kernel
theorem dX8_parts_37 : decode cX8_parts 37 = .ok (.invokevirtual 311, 3) := by decide +kernel
theorem dX8_parts_40 : decode cX8_parts 40 = .ok (.istore 5, 2) := by decide +kernel
theorem dX8_parts_42 : decode cX8_parts 42 = .ok (.iconst (-1), 1) := by decide +kernel
theorem dX8_parts_43 : decode cX8_parts 43 = .ok (.istore 6, 2) := by decide +kernel
theorem dX8_parts_45 : decode cX8_parts 45 = .ok (.iconst 0, 1) := by decide +kernel
theorem dX8_parts_46 : decode cX8_parts 46 = .ok (.istore 7, 2) := by decide +kernel
theorem dX8_parts_48 : decode cX8_parts 48 = .ok (.iconst 0, 1) := by decide +kernel
theorem dX8_parts_49 : decode cX8_parts 49 = .ok (.istore 8, 2) := by decide +kernel
theorem dX8_parts_51 : decode cX8_parts 51 = .ok (.iload 8, 2) := by decide +kernel
theorem dX8_parts_53 : decode cX8_parts 53 = .ok (.aload_n 0, 1) := by decide +kernel
theorem dX8_parts_54 : decode cX8_parts 54 = .ok (.getfield 60, 3) := by decide +kernel
theorem dX8_parts_57 : decode cX8_parts 57 = .ok (.getfield 96, 3) := by decide +kernel
theorem dX8_parts_60 : decode cX8_parts 60 = .ok (.iconst 2, 1) := by decide +kernel
theorem dX8_parts_61 : decode cX8_parts 61 = .ok (.iaload, 1) := by decide +kernel
theorem dX8_parts_62 : decode cX8_parts 62 = .ok (.if_icmp .ge 36, 3) := by decide +kernel
theorem dX8_parts_98 : decode cX8_parts 98 = .ok (.iload 6, 2) := by decide +kernel
theorem dX8_parts_100 : decode cX8_parts 100 = .ok (.iconst (-1), 1) := by decide +kernel
theorem dX8_parts_101 : decode cX8_parts 101 = .ok (.if_icmp .ne 5, 3) := by decide +kernel
theorem dX8_parts_106 : decode cX8_parts 106 = .ok (.iload_n 3, 1) := by decide +kernel
theorem dX8_parts_107 : decode cX8_parts 107 = .ok (.ifCond .ne 8, 3) := by decide +kernel
theorem dX8_parts_115 : decode cX8_parts 115 = .ok (.iload 7, 2) := by decide +kernel
theorem dX8_parts_117 : decode cX8_parts 117 = .ok (.ireturn, 1) := by decide +kernel
theorem dX8_parts_110 : decode cX8_parts 110 = .ok (.iload 6, 2) := by decide +kernel
theorem dX8_parts_112 : decode cX8_parts 112 = .ok (.goto 5, 3) := by decide +kernel
theorem dX8_parts_104 : decode cX8_parts 104 = .ok (.iconst (-1), 1) := by decide +kernel
theorem dX8_parts_105 : decode cX8_parts 105 = .ok (.ireturn, 1) := by decide +kernel
theorem dX8_parts_65 : decode cX8_parts 65 = .ok (.aload_n 0, 1) := by decide +kernel
theorem dX8_parts_66 : decode cX8_parts 66 = .ok (.iload_n 1, 1) := by decide +kernel
theorem dX8_parts_67 : decode cX8_parts 67 = .ok (.iload 8, 2) := by decide +kernel
theorem dX8_parts_69 : decode cX8_parts 69 = .ok (.iload_n 2, 1) := by decide +kernel
theorem dX8_parts_70 : decode cX8_parts 70 = .ok (.iload 5, 2) := by decide +kernel
theorem dX8_parts_72 : decode cX8_parts 72 = .ok (.invokevirtual 314, 3) := by decide +kernel
theorem dX8_parts_75 : decode cX8_parts 75 = .ok (.istore 9, 2) := by decide +kernel
theorem dX8_parts_77 : decode cX8_parts 77 = .ok (.iload 9, 2) := by decide +kernel
theorem dX8_parts_79 : decode cX8_parts 79 = .ok (.iload 7, 2) := by decide +kernel
theorem dX8_parts_81 : decode cX8_parts 81 = .ok (.if_icmp .le 11, 3) := by decide +kernel
theorem dX8_parts_92 : decode cX8_parts 92 = .ok (.iinc 8 1, 3) := by decide +kernel
theorem dX8_parts_95 : decode cX8_parts 95 = .ok (.goto (-44), 3) := by decide +kernel
theorem dX8_parts_84 : decode cX8_parts 84 = .ok (.iload 9, 2) := by decide +kernel
theorem dX8_parts_86 : decode cX8_parts 86 = .ok (.istore 7, 2) := by decide +kernel
theorem dX8_parts_88 : decode cX8_parts 88 = .ok (.iload 8, 2) := by decide +kernel
theorem dX8_parts_90 : decode cX8_parts 90 = .ok (.istore 6, 2) := by decide +kernel
theorem dX8_parts_32 : decode cX8_parts 32 = .ok (.iconst (-1), 1) := by decide +kernel
theorem dX8_parts_33 : decode cX8_parts 33 = .ok (.ireturn, 1) := by decide +kernel
theorem dX8_began_0 : decode cX8_began 0 = .ok (.iload_n 1, 1) := by decide +kernel
theorem dX8_began_1 : decode cX8_began 1 = .ok (.iconst 0, 1) := by decide +kernel
theorem dX8_began_2 : decode cX8_began 2 = .ok (.aload_n 0, 1) := by decide +kernel
theorem dX8_began_3 : decode cX8_began 3 = .ok (.getfield 37, 3) := by decide +kernel
theorem dX8_began_6 : decode cX8_began 6 = .ok (.getfield 90, 3) := by decide +kernel
theorem dX8_began_9 : decode cX8_began 9 = .ok (.iconst 1, 1) := by decide +kernel
theorem dX8_began_10 : decode cX8_began 10 = .ok (.isub, 1) := by decide +kernel
theorem dX8_began_11 : decode cX8_began 11 = .ok (.invokestatic 150, 3) := by decide +kernel
theorem dX8_began_14 : decode cX8_began 14 = .ok (.ifCond .eq 14, 3) := by decide +kernel
theorem dX8_began_17 : decode cX8_began 17 = .ok (.aload_n 0, 1) := by decide +kernel
theorem dX8_began_18 : decode cX8_began 18 = .ok (.getfield 60, 3) := by decide +kernel
theorem dX8_began_21 : decode cX8_began 21 = .ok (.iload_n 2, 1) := by decide +kernel
theorem dX8_began_22 : decode cX8_began 22 = .ok (.invokevirtual 281, 3) := by decide +kernel
theorem dX8_began_25 : decode cX8_began 25 = .ok (.ifCond .ne 5, 3) := by decide +kernel
theorem dX8_began_30 : decode cX8_began 30 = .ok (.aload_n 0, 1) := by decide +kernel
theorem dX8_began_31 : decode cX8_began 31 = .ok (.aload_n 0, 1) := by decide +kernel
theorem dX8_began_32 : decode cX8_began 32 = .ok (.getfield 37, 3) := by decide +kernel
theorem dX8_began_35 : decode cX8_began 35 = .ok (.getfield 285, 3) := by decide +kernel
theorem dX8_began_38 : decode cX8_began 38 = .ok (.iload_n 1, 1) := by decide +kernel
theorem dX8_began_39 : decode cX8_began 39 = .ok (.iaload, 1) := by decide +kernel
theorem dX8_began_40 : decode cX8_began 40 = .ok (.aload_n 0, 1) := by decide +kernel
theorem dX8_began_41 : decode cX8_began 41 = .ok (.getfield 37, 3) := by decide +kernel
theorem dX8_began_44 : decode cX8_began 44 = .ok (.getfield 288, 3) := by decide +kernel
theorem dX8_began_47 : decode cX8_began 47 = .ok (.iload_n 1, 1) := by decide +kernel
theorem dX8_began_48 : decode cX8_began 48 = .ok (.iaload, 1) := by decide +kernel
theorem dX8_began_49 : decode cX8_began 49 = .ok (.iload_n 2, 1) := by decide +kernel
theorem dX8_began_50 : decode cX8_began 50 = .ok (.invokevirtual 290, 3) := by decide +kernel
theorem dX8_began_53 : decode cX8_began 53 = .ok (.aload_n 0, 1) := by decide +kernel
theorem dX8_began_54 : decode cX8_began 54 = .ok (.getfield 30, 3) := by decide +kernel
theorem dX8_began_57 : decode cX8_began 57 = .ok (.aload_n 0, 1) := by decide +kernel
theorem dX8_began_58 : decode cX8_began 58 = .ok (.getfield 60, 3) := by decide +kernel
theorem dX8_began_61 : decode cX8_began 61 = .ok (.aload_n 0, 1) := by decide +kernel
theorem dX8_began_62 : decode cX8_began 62 = .ok (.getfield 37, 3) := by decide +kernel
theorem dX8_began_65 : decode cX8_began 65 = .ok (.getfield 293, 3) := by decide +kernel
theorem dX8_began_68 : decode cX8_began 68 = .ok (.iload_n 1, 1) := by decide +kernel
theorem dX8_began_69 : decode cX8_began 69 = .ok (.iaload, 1) := by decide +kernel
theorem dX8_began_70 : decode cX8_began 70 = .ok (.invokevirtual 320, 3) := by decide +kernel
theorem dX8_began_73 : decode cX8_began 73 = .ok (.ireturn, 1) := by decide +kernel
theorem dX8_began_28 : decode cX8_began 28 = .ok (.iconst (-1), 1) := by decide +kernel
theorem dX8_began_29 : decode cX8_began 29 = .ok (.ireturn, 1) := by decide +kernel
theorem dX8_seed_0 : decode cX8_seed 0 = .ok (.aload_n 0, 1) := by decide +kernel
theorem dX8_seed_1 : decode cX8_seed 1 = .ok (.getfield 72, 3) := by decide +kernel
theorem dX8_seed_4 : decode cX8_seed 4 = .ok (.istore_n 2, 1) := by decide +kernel
theorem dX8_seed_5 : decode cX8_seed 5 = .ok (.aload_n 0, 1) := by decide +kernel
theorem dX8_seed_6 : decode cX8_seed 6 = .ok (.iload_n 1, 1) := by decide +kernel
theorem dX8_seed_7 : decode cX8_seed 7 = .ok (.putfield 72, 3) := by decide +kernel
theorem dX8_seed_10 : decode cX8_seed 10 = .ok (.iload_n 2, 1) := by decide +kernel
theorem dX8_seed_11 : decode cX8_seed 11 = .ok (.ireturn, 1) := by decide +kernel
theorem dX8_image_0 : decode cX8_image 0 = .ok (.aload_n 0, 1) := by decide +kernel
theorem dX8_image_1 : decode cX8_image 1 = .ok (.getfield 68, 3) := by decide +kernel
theorem dX8_image_4 : decode cX8_image 4 = .ok (.ifCond .eq 12, 3) := by decide +kernel
theorem dX8_image_16 : decode cX8_image 16 = .ok (.iconst (-1), 1) := by decide +kernel
theorem dX8_image_17 : decode cX8_image 17 = .ok (.ireturn, 1) := by decide +kernel
theorem dX8_image_7 : decode cX8_image 7 = .ok (.iload_n 1, 1) := by decide +kernel
theorem dX8_image_8 : decode cX8_image 8 = .ok (.iconst 0, 1) := by decide +kernel
theorem dX8_image_9 : decode cX8_image 9 = .ok (.iconst 2, 1) := by decide +kernel
theorem dX8_image_10 : decode cX8_image 10 = .ok (.invokestatic 150, 3) := by decide +kernel
theorem dX8_image_13 : decode cX8_image 13 = .ok (.ifCond .ne 5, 3) := by decide +kernel
theorem dX8_image_18 : decode cX8_image 18 = .ok (.aload_n 0, 1) := by decide +kernel
theorem dX8_image_19 : decode cX8_image 19 = .ok (.getfield 43, 3) := by decide +kernel
theorem dX8_image_22 : decode cX8_image 22 = .ok (.iload_n 1, 1) := by decide +kernel
theorem dX8_image_23 : decode cX8_image 23 = .ok (.aaload, 1) := by decide +kernel
theorem dX8_image_24 : decode cX8_image 24 = .ok (.iconst 1, 1) := by decide +kernel
theorem dX8_image_25 : decode cX8_image 25 = .ok (.putfield 93, 3) := by decide +kernel
theorem dX8_image_28 : decode cX8_image 28 = .ok (.aload_n 0, 1) := by decide +kernel
theorem dX8_image_29 : decode cX8_image 29 = .ok (.getfield 43, 3) := by decide +kernel
theorem dX8_image_32 : decode cX8_image 32 = .ok (.iload_n 1, 1) := by decide +kernel
theorem dX8_image_33 : decode cX8_image 33 = .ok (.aaload, 1) := by decide +kernel
theorem dX8_image_34 : decode cX8_image 34 = .ok (.aload_n 0, 1) := by decide +kernel
theorem dX8_image_35 : decode cX8_image 35 = .ok (.getfield 72, 3) := by decide +kernel
theorem dX8_image_38 : decode cX8_image 38 = .ok (.putfield 323, 3) := by decide +kernel
theorem dX8_image_41 : decode cX8_image 41 = .ok (.aload_n 0, 1) := by decide +kernel
theorem dX8_image_42 : decode cX8_image 42 = .ok (.getfield 43, 3) := by decide +kernel
theorem dX8_image_45 : decode cX8_image 45 = .ok (.iload_n 1, 1) := by decide +kernel
theorem dX8_image_46 : decode cX8_image 46 = .ok (.aaload, 1) := by decide +kernel
theorem dX8_image_47 : decode cX8_image 47 = .ok (.getfield 324, 3) := by decide +kernel
theorem dX8_image_50 : decode cX8_image 50 = .ok (.aload_n 0, 1) := by decide +kernel
theorem dX8_image_51 : decode cX8_image 51 = .ok (.getfield 23, 3) := by decide +kernel
theorem dX8_image_54 : decode cX8_image 54 = .ok (.invokevirtual 325, 3) := by decide +kernel
theorem dX8_image_57 : decode cX8_image 57 = .ok (.aload_n 0, 1) := by decide +kernel
theorem dX8_image_58 : decode cX8_image 58 = .ok (.getfield 23, 3) := by decide +kernel
theorem dX8_image_61 : decode cX8_image 61 = .ok (.getfield 147, 3) := by decide +kernel
theorem dX8_image_64 : decode cX8_image 64 = .ok (.ireturn, 1) := by decide +kernel
theorem dX8_back_0 : decode cX8_back 0 = .ok (.iload_n 1, 1) := by decide +kernel
theorem dX8_back_1 : decode cX8_back 1 = .ok (.iconst 0, 1) := by decide +kernel
theorem dX8_back_2 : decode cX8_back 2 = .ok (.iconst 2, 1) := by decide +kernel
theorem dX8_back_3 : decode cX8_back 3 = .ok (.invokestatic 150, 3) := by decide +kernel
theorem dX8_back_6 : decode cX8_back 6 = .ok (.ifCond .eq 15, 3) := by decide +kernel
theorem dX8_back_9 : decode cX8_back 9 = .ok (.aload_n 0, 1) := by decide +kernel
theorem dX8_back_10 : decode cX8_back 10 = .ok (.getfield 43, 3) := by decide +kernel
theorem dX8_back_13 : decode cX8_back 13 = .ok (.iload_n 1, 1) := by decide +kernel
theorem dX8_back_14 : decode cX8_back 14 = .ok (.aaload, 1) := by decide +kernel
theorem dX8_back_15 : decode cX8_back 15 = .ok (.getfield 93, 3) := by decide +kernel
theorem dX8_back_18 : decode cX8_back 18 = .ok (.ifCond .ne 5, 3) := by decide +kernel
theorem dX8_back_23 : decode cX8_back 23 = .ok (.aload_n 0, 1) := by decide +kernel
theorem dX8_back_24 : decode cX8_back 24 = .ok (.aload_n 0, 1) := by decide +kernel
theorem dX8_back_25 : decode cX8_back 25 = .ok (.getfield 43, 3) := by decide +kernel
theorem dX8_back_28 : decode cX8_back 28 = .ok (.iload_n 1, 1) := by decide +kernel
theorem dX8_back_29 : decode cX8_back 29 = .ok (.aaload, 1) := by decide +kernel
theorem dX8_back_30 : decode cX8_back 30 = .ok (.getfield 323, 3) := by decide +kernel
theorem dX8_back_33 : decode cX8_back 33 = .ok (.putfield 72, 3) := by decide +kernel
theorem dX8_back_36 : decode cX8_back 36 = .ok (.aload_n 0, 1) := by decide +kernel
theorem dX8_back_37 : decode cX8_back 37 = .ok (.getfield 23, 3) := by decide +kernel
theorem dX8_back_40 : decode cX8_back 40 = .ok (.aload_n 0, 1) := by decide +kernel
theorem dX8_back_41 : decode cX8_back 41 = .ok (.getfield 43, 3) := by decide +kernel
theorem dX8_back_44 : decode cX8_back 44 = .ok (.iload_n 1, 1) := by decide +kernel
theorem dX8_back_45 : decode cX8_back 45 = .ok (.aaload, 1) := by decide +kernel
theorem dX8_back_46 : decode cX8_back 46 = .ok (.getfield 324, 3) := by decide +kernel
theorem dX8_back_49 : decode cX8_back 49 = .ok (.invokevirtual 325, 3) := by decide +kernel
theorem dX8_back_52 : decode cX8_back 52 = .ok (.aload_n 0, 1) := by decide +kernel
theorem dX8_back_53 : decode cX8_back 53 = .ok (.iconst 1, 1) := by decide +kernel
theorem dX8_back_54 : decode cX8_back 54 = .ok (.putfield 68, 3) := by decide +kernel
theorem dX8_back_57 : decode cX8_back 57 = .ok (.aload_n 0, 1) := by decide +kernel
theorem dX8_back_58 : decode cX8_back 58 = .ok (.getfield 23, 3) := by decide +kernel
theorem dX8_back_61 : decode cX8_back 61 = .ok (.getfield 147, 3) := by decide +kernel
theorem dX8_back_64 : decode cX8_back 64 = .ok (.ireturn, 1) := by decide +kernel
theorem dX8_back_21 : decode cX8_back 21 = .ok (.iconst (-1), 1) := by decide +kernel
theorem dX8_back_22 : decode cX8_back 22 = .ok (.ireturn, 1) := by decide +kernel
theorem dX8_about_0 : decode cX8_about 0 = .ok (.iload_n 1, 1) := by decide +kernel
theorem dX8_about_1 : decode cX8_about 1 = .ok (.tableswitch 99 0 9 #[55, 55, 55, 55, 55, 65, 73, 78, 83, 88], 55) := by decide +kernel
theorem dX8_about_56 : decode cX8_about 56 = .ok (.aload_n 0, 1) := by decide +kernel
theorem dX8_about_57 : decode cX8_about 57 = .ok (.getfield 60, 3) := by decide +kernel
theorem dX8_about_60 : decode cX8_about 60 = .ok (.getfield 96, 3) := by decide +kernel
theorem dX8_about_63 : decode cX8_about 63 = .ok (.iload_n 1, 1) := by decide +kernel
theorem dX8_about_64 : decode cX8_about 64 = .ok (.iaload, 1) := by decide +kernel
theorem dX8_about_65 : decode cX8_about 65 = .ok (.ireturn, 1) := by decide +kernel
theorem dX8_about_66 : decode cX8_about 66 = .ok (.aload_n 0, 1) := by decide +kernel
theorem dX8_about_67 : decode cX8_about 67 = .ok (.getfield 37, 3) := by decide +kernel
theorem dX8_about_70 : decode cX8_about 70 = .ok (.getfield 90, 3) := by decide +kernel
theorem dX8_about_73 : decode cX8_about 73 = .ok (.ireturn, 1) := by decide +kernel
theorem dX8_about_74 : decode cX8_about 74 = .ok (.aload_n 0, 1) := by decide +kernel
theorem dX8_about_75 : decode cX8_about 75 = .ok (.getfield 75, 3) := by decide +kernel
theorem dX8_about_78 : decode cX8_about 78 = .ok (.ireturn, 1) := by decide +kernel
theorem dX8_about_79 : decode cX8_about 79 = .ok (.aload_n 0, 1) := by decide +kernel
theorem dX8_about_80 : decode cX8_about 80 = .ok (.getfield 64, 3) := by decide +kernel
theorem dX8_about_83 : decode cX8_about 83 = .ok (.ireturn, 1) := by decide +kernel
theorem dX8_about_84 : decode cX8_about 84 = .ok (.aload_n 0, 1) := by decide +kernel
theorem dX8_about_85 : decode cX8_about 85 = .ok (.getfield 72, 3) := by decide +kernel
theorem dX8_about_88 : decode cX8_about 88 = .ok (.ireturn, 1) := by decide +kernel
theorem dX8_about_89 : decode cX8_about 89 = .ok (.aload_n 0, 1) := by decide +kernel
theorem dX8_about_90 : decode cX8_about 90 = .ok (.getfield 60, 3) := by decide +kernel
theorem dX8_about_93 : decode cX8_about 93 = .ok (.getfield 181, 3) := by decide +kernel
theorem dX8_about_96 : decode cX8_about 96 = .ok (.getfield 329, 3) := by decide +kernel
theorem dX8_about_99 : decode cX8_about 99 = .ok (.ireturn, 1) := by decide +kernel
theorem dX8_about_100 : decode cX8_about 100 = .ok (.iconst (-1), 1) := by decide +kernel
theorem dX8_about_101 : decode cX8_about 101 = .ok (.ireturn, 1) := by decide +kernel
