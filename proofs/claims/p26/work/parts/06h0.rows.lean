theorem dX4_beginNamed_0 : decode cX4_beginNamed 0 = .ok (.aload_n 0, 1) := by decide +kernel
theorem dX4_beginNamed_1 : decode cX4_beginNamed 1 = .ok (.getfield 44, 3) := by decide +kernel
theorem dX4_beginNamed_4 : decode cX4_beginNamed 4 = .ok (.getfield 85, 3) := by decide +kernel
theorem dX4_beginNamed_7 : decode cX4_beginNamed 7 = .ok (.iload_n 1, 1) := by decide +kernel
theorem dX4_beginNamed_8 : decode cX4_beginNamed 8 = .ok (.iaload, 1) := by decide +kernel
theorem dX4_beginNamed_9 : decode cX4_beginNamed 9 = .ok (.istore_n 2, 1) := by decide +kernel
theorem dX4_beginNamed_10 : decode cX4_beginNamed 10 = .ok (.iload_n 2, 1) := by decide +kernel
theorem dX4_beginNamed_11 : decode cX4_beginNamed 11 = .ok (.iload_n 1, 1) := by decide +kernel
theorem dX4_beginNamed_12 : decode cX4_beginNamed 12 = .ok (.invokestatic 158, 3) := by decide +kernel
theorem dX4_beginNamed_15 : decode cX4_beginNamed 15 = .ok (.if_icmp .lt 9, 3) := by decide +kernel
theorem dX4_beginNamed_24 : decode cX4_beginNamed 24 = .ok (.aload_n 0, 1) := by decide +kernel
theorem dX4_beginNamed_25 : decode cX4_beginNamed 25 = .ok (.invokevirtual 78, 3) := by decide +kernel
theorem dX4_beginNamed_28 : decode cX4_beginNamed 28 = .ok (.aload_n 0, 1) := by decide +kernel
theorem dX4_beginNamed_29 : decode cX4_beginNamed 29 = .ok (.getfield 28, 3) := by decide +kernel
theorem dX4_beginNamed_32 : decode cX4_beginNamed 32 = .ok (.iconst 2, 1) := by decide +kernel
theorem dX4_beginNamed_33 : decode cX4_beginNamed 33 = .ok (.if_icmp .eq 9, 3) := by decide +kernel
theorem dX4_beginNamed_42 : decode cX4_beginNamed 42 = .ok (.aload_n 0, 1) := by decide +kernel
theorem dX4_beginNamed_43 : decode cX4_beginNamed 43 = .ok (.getfield 44, 3) := by decide +kernel
theorem dX4_beginNamed_46 : decode cX4_beginNamed 46 = .ok (.iload_n 1, 1) := by decide +kernel
theorem dX4_beginNamed_47 : decode cX4_beginNamed 47 = .ok (.aload_n 0, 1) := by decide +kernel
theorem dX4_beginNamed_48 : decode cX4_beginNamed 48 = .ok (.getfield 37, 3) := by decide +kernel
theorem dX4_beginNamed_51 : decode cX4_beginNamed 51 = .ok (.invokevirtual 162, 3) := by decide +kernel
theorem dX4_beginNamed_54 : decode cX4_beginNamed 54 = .ok (.ifCond .eq 9, 3) := by decide +kernel
theorem dX4_beginNamed_57 : decode cX4_beginNamed 57 = .ok (.aload_n 0, 1) := by decide +kernel
theorem dX4_beginNamed_58 : decode cX4_beginNamed 58 = .ok (.iconst 3, 1) := by decide +kernel
theorem dX4_beginNamed_59 : decode cX4_beginNamed 59 = .ok (.invokevirtual 124, 3) := by decide +kernel
theorem dX4_beginNamed_62 : decode cX4_beginNamed 62 = .ok (.ireturn, 1) := by decide +kernel
theorem dX4_beginNamed_63 : decode cX4_beginNamed 63 = .ok (.aload_n 0, 1) := by decide +kernel
theorem dX4_beginNamed_64 : decode cX4_beginNamed 64 = .ok (.getfield 44, 3) := by decide +kernel
theorem dX4_beginNamed_67 : decode cX4_beginNamed 67 = .ok (.getfield 166, 3) := by decide +kernel
theorem dX4_beginNamed_70 : decode cX4_beginNamed 70 = .ok (.iload_n 1, 1) := by decide +kernel
theorem dX4_beginNamed_71 : decode cX4_beginNamed 71 = .ok (.aaload, 1) := by decide +kernel
theorem dX4_beginNamed_72 : decode cX4_beginNamed 72 = .ok (.iload_n 2, 1) := by decide +kernel
theorem dX4_beginNamed_73 : decode cX4_beginNamed 73 = .ok (.aload_n 0, 1) := by decide +kernel
theorem dX4_beginNamed_74 : decode cX4_beginNamed 74 = .ok (.getfield 37, 3) := by decide +kernel
theorem dX4_beginNamed_77 : decode cX4_beginNamed 77 = .ok (.lastore, 1) := by decide +kernel
theorem dX4_beginNamed_78 : decode cX4_beginNamed 78 = .ok (.aload_n 0, 1) := by decide +kernel
theorem dX4_beginNamed_79 : decode cX4_beginNamed 79 = .ok (.invokevirtual 78, 3) := by decide +kernel
theorem dX4_beginNamed_82 : decode cX4_beginNamed 82 = .ok (.iconst 1, 1) := by decide +kernel
theorem dX4_beginNamed_83 : decode cX4_beginNamed 83 = .ok (.ireturn, 1) := by decide +kernel
theorem dX4_beginNamed_36 : decode cX4_beginNamed 36 = .ok (.aload_n 0, 1) := by decide +kernel
theorem dX4_beginNamed_37 : decode cX4_beginNamed 37 = .ok (.iconst 2, 1) := by decide +kernel
theorem dX4_beginNamed_38 : decode cX4_beginNamed 38 = .ok (.invokevirtual 124, 3) := by decide +kernel
theorem dX4_beginNamed_41 : decode cX4_beginNamed 41 = .ok (.ireturn, 1) := by decide +kernel
theorem dX4_beginNamed_18 : decode cX4_beginNamed 18 = .ok (.aload_n 0, 1) := by decide +kernel
theorem dX4_beginNamed_19 : decode cX4_beginNamed 19 = .ok (.iconst 2, 1) := by decide +kernel
theorem dX4_beginNamed_20 : decode cX4_beginNamed 20 = .ok (.invokevirtual 124, 3) := by decide +kernel
theorem dX4_beginNamed_23 : decode cX4_beginNamed 23 = .ok (.ireturn, 1) := by decide +kernel
theorem dX4_endNamed_0 : decode cX4_endNamed 0 = .ok (.aload_n 0, 1) := by decide +kernel
theorem dX4_endNamed_1 : decode cX4_endNamed 1 = .ok (.getfield 44, 3) := by decide +kernel
theorem dX4_endNamed_4 : decode cX4_endNamed 4 = .ok (.getfield 85, 3) := by decide +kernel
theorem dX4_endNamed_7 : decode cX4_endNamed 7 = .ok (.iload_n 1, 1) := by decide +kernel
theorem dX4_endNamed_8 : decode cX4_endNamed 8 = .ok (.dup2, 1) := by decide +kernel
theorem dX4_endNamed_9 : decode cX4_endNamed 9 = .ok (.iaload, 1) := by decide +kernel
theorem dX4_endNamed_10 : decode cX4_endNamed 10 = .ok (.iconst 1, 1) := by decide +kernel
theorem dX4_endNamed_11 : decode cX4_endNamed 11 = .ok (.iadd, 1) := by decide +kernel
theorem dX4_endNamed_12 : decode cX4_endNamed 12 = .ok (.iastore, 1) := by decide +kernel
theorem dX4_endNamed_13 : decode cX4_endNamed 13 = .ok (.aload_n 0, 1) := by decide +kernel
theorem dX4_endNamed_14 : decode cX4_endNamed 14 = .ok (.bipush 59, 2) := by decide +kernel
theorem dX4_endNamed_16 : decode cX4_endNamed 16 = .ok (.invokevirtual 142, 3) := by decide +kernel
theorem dX4_endNamed_19 : decode cX4_endNamed 19 = .ok (.ireturn, 1) := by decide +kernel
theorem dX4_readSides_0 : decode cX4_readSides 0 = .ok (.iconst 0, 1) := by decide +kernel
theorem dX4_readSides_1 : decode cX4_readSides 1 = .ok (.istore_n 2, 1) := by decide +kernel
theorem dX4_readSides_2 : decode cX4_readSides 2 = .ok (.iconst 0, 1) := by decide +kernel
theorem dX4_readSides_3 : decode cX4_readSides 3 = .ok (.istore_n 3, 1) := by decide +kernel
theorem dX4_readSides_4 : decode cX4_readSides 4 = .ok (.iload_n 2, 1) := by decide +kernel
theorem dX4_readSides_5 : decode cX4_readSides 5 = .ok (.bipush 12, 2) := by decide +kernel
theorem dX4_readSides_7 : decode cX4_readSides 7 = .ok (.if_icmp .ge 53, 3) := by decide +kernel
theorem dX4_readSides_60 : decode cX4_readSides 60 = .ok (.aload_n 0, 1) := by decide +kernel
theorem dX4_readSides_61 : decode cX4_readSides 61 = .ok (.getfield 44, 3) := by decide +kernel
theorem dX4_readSides_64 : decode cX4_readSides 64 = .ok (.getfield 170, 3) := by decide +kernel
theorem dX4_readSides_67 : decode cX4_readSides 67 = .ok (.iload_n 1, 1) := by decide +kernel
theorem dX4_readSides_68 : decode cX4_readSides 68 = .ok (.iload_n 2, 1) := by decide +kernel
theorem dX4_readSides_69 : decode cX4_readSides 69 = .ok (.iastore, 1) := by decide +kernel
theorem dX4_readSides_70 : decode cX4_readSides 70 = .ok (.aload_n 0, 1) := by decide +kernel
theorem dX4_readSides_71 : decode cX4_readSides 71 = .ok (.getfield 44, 3) := by decide +kernel
theorem dX4_readSides_74 : decode cX4_readSides 74 = .ok (.getfield 173, 3) := by decide +kernel
theorem dX4_readSides_77 : decode cX4_readSides 77 = .ok (.iload_n 1, 1) := by decide +kernel
theorem dX4_readSides_78 : decode cX4_readSides 78 = .ok (.iload_n 3, 1) := by decide +kernel
theorem dX4_readSides_79 : decode cX4_readSides 79 = .ok (.iastore, 1) := by decide +kernel
theorem dX4_readSides_80 : decode cX4_readSides 80 = .ok (.iload_n 2, 1) := by decide +kernel
theorem dX4_readSides_81 : decode cX4_readSides 81 = .ok (.ifCond .gt 11, 3) := by decide +kernel
theorem dX4_readSides_92 : decode cX4_readSides 92 = .ok (.iconst 1, 1) := by decide +kernel
theorem dX4_readSides_93 : decode cX4_readSides 93 = .ok (.goto 4, 3) := by decide +kernel
theorem dX4_readSides_97 : decode cX4_readSides 97 = .ok (.ireturn, 1) := by decide +kernel
theorem dX4_readSides_10 : decode cX4_readSides 10 = .ok (.aload_n 0, 1) := by decide +kernel
theorem dX4_readSides_11 : decode cX4_readSides 11 = .ok (.getfield 28, 3) := by decide +kernel
theorem dX4_readSides_14 : decode cX4_readSides 14 = .ok (.sipush 270, 3) := by decide +kernel
theorem dX4_readSides_17 : decode cX4_readSides 17 = .ok (.if_icmp .eq 13, 3) := by decide +kernel
theorem dX4_readSides_30 : decode cX4_readSides 30 = .ok (.iload_n 3, 1) := by decide +kernel
theorem dX4_readSides_31 : decode cX4_readSides 31 = .ok (.aload_n 0, 1) := by decide +kernel
theorem dX4_readSides_32 : decode cX4_readSides 32 = .ok (.getfield 28, 3) := by decide +kernel
theorem dX4_readSides_35 : decode cX4_readSides 35 = .ok (.sipush 271, 3) := by decide +kernel
theorem dX4_readSides_38 : decode cX4_readSides 38 = .ok (.if_icmp .ne 9, 3) := by decide +kernel
theorem dX4_readSides_47 : decode cX4_readSides 47 = .ok (.iconst 0, 1) := by decide +kernel
theorem dX4_readSides_48 : decode cX4_readSides 48 = .ok (.ior, 1) := by decide +kernel
theorem dX4_readSides_49 : decode cX4_readSides 49 = .ok (.istore_n 3, 1) := by decide +kernel
theorem dX4_readSides_50 : decode cX4_readSides 50 = .ok (.iinc 2 1, 3) := by decide +kernel
theorem dX4_readSides_53 : decode cX4_readSides 53 = .ok (.aload_n 0, 1) := by decide +kernel
theorem dX4_readSides_54 : decode cX4_readSides 54 = .ok (.invokevirtual 78, 3) := by decide +kernel
theorem dX4_readSides_57 : decode cX4_readSides 57 = .ok (.goto (-53), 3) := by decide +kernel
theorem dX4_readSides_20 : decode cX4_readSides 20 = .ok (.aload_n 0, 1) := by decide +kernel
theorem dX4_readSides_21 : decode cX4_readSides 21 = .ok (.getfield 28, 3) := by decide +kernel
theorem dX4_readSides_24 : decode cX4_readSides 24 = .ok (.sipush 271, 3) := by decide +kernel
theorem dX4_readSides_27 : decode cX4_readSides 27 = .ok (.if_icmp .ne 33, 3) := by decide +kernel
theorem dX4_readSides_84 : decode cX4_readSides 84 = .ok (.aload_n 0, 1) := by decide +kernel
theorem dX4_readSides_85 : decode cX4_readSides 85 = .ok (.iconst 2, 1) := by decide +kernel
theorem dX4_readSides_86 : decode cX4_readSides 86 = .ok (.invokevirtual 124, 3) := by decide +kernel
theorem dX4_readSides_89 : decode cX4_readSides 89 = .ok (.ifCond .eq 7, 3) := by decide +kernel
theorem dX4_readSides_96 : decode cX4_readSides 96 = .ok (.iconst 0, 1) := by decide +kernel
theorem dX4_readSides_41 : decode cX4_readSides 41 = .ok (.iconst 1, 1) := by decide +kernel
theorem dX4_readSides_42 : decode cX4_readSides 42 = .ok (.iload_n 2, 1) := by decide +kernel
theorem dX4_readSides_43 : decode cX4_readSides 43 = .ok (.ishl, 1) := by decide +kernel
theorem dX4_readSides_44 : decode cX4_readSides 44 = .ok (.goto 4, 3) := by decide +kernel
theorem dX4_readCord_0 : decode cX4_readCord 0 = .ok (.aload_n 0, 1) := by decide +kernel
theorem dX4_readCord_1 : decode cX4_readCord 1 = .ok (.sipush 264, 3) := by decide +kernel
theorem dX4_readCord_4 : decode cX4_readCord 4 = .ok (.invokevirtual 142, 3) := by decide +kernel
theorem dX4_readCord_7 : decode cX4_readCord 7 = .ok (.ifCond .eq 82, 3) := by decide +kernel
theorem dX4_readCord_10 : decode cX4_readCord 10 = .ok (.aload_n 0, 1) := by decide +kernel
theorem dX4_readCord_11 : decode cX4_readCord 11 = .ok (.aload_n 0, 1) := by decide +kernel
theorem dX4_readCord_12 : decode cX4_readCord 12 = .ok (.getfield 44, 3) := by decide +kernel
theorem dX4_readCord_15 : decode cX4_readCord 15 = .ok (.getfield 176, 3) := by decide +kernel
theorem dX4_readCord_18 : decode cX4_readCord 18 = .ok (.iload_n 1, 1) := by decide +kernel
theorem dX4_readCord_19 : decode cX4_readCord 19 = .ok (.iconst 0, 1) := by decide +kernel
theorem dX4_readCord_20 : decode cX4_readCord 20 = .ok (.bipush 99, 2) := by decide +kernel
theorem dX4_readCord_22 : decode cX4_readCord 22 = .ok (.invokevirtual 179, 3) := by decide +kernel
theorem dX4_readCord_25 : decode cX4_readCord 25 = .ok (.ifCond .eq 64, 3) := by decide +kernel
theorem dX4_readCord_28 : decode cX4_readCord 28 = .ok (.aload_n 0, 1) := by decide +kernel
theorem dX4_readCord_29 : decode cX4_readCord 29 = .ok (.sipush 265, 3) := by decide +kernel
theorem dX4_readCord_32 : decode cX4_readCord 32 = .ok (.invokevirtual 142, 3) := by decide +kernel
theorem dX4_readCord_35 : decode cX4_readCord 35 = .ok (.ifCond .eq 54, 3) := by decide +kernel
theorem dX4_readCord_38 : decode cX4_readCord 38 = .ok (.aload_n 0, 1) := by decide +kernel
theorem dX4_readCord_39 : decode cX4_readCord 39 = .ok (.aload_n 0, 1) := by decide +kernel
theorem dX4_readCord_40 : decode cX4_readCord 40 = .ok (.getfield 44, 3) := by decide +kernel
theorem dX4_readCord_43 : decode cX4_readCord 43 = .ok (.getfield 183, 3) := by decide +kernel
theorem dX4_readCord_46 : decode cX4_readCord 46 = .ok (.iload_n 1, 1) := by decide +kernel
theorem dX4_readCord_47 : decode cX4_readCord 47 = .ok (.iconst 0, 1) := by decide +kernel
theorem dX4_readCord_48 : decode cX4_readCord 48 = .ok (.bipush 99, 2) := by decide +kernel
theorem dX4_readCord_50 : decode cX4_readCord 50 = .ok (.invokevirtual 179, 3) := by decide +kernel
theorem dX4_readCord_53 : decode cX4_readCord 53 = .ok (.ifCond .eq 36, 3) := by decide +kernel
theorem dX4_readCord_56 : decode cX4_readCord 56 = .ok (.aload_n 0, 1) := by decide +kernel
theorem dX4_readCord_57 : decode cX4_readCord 57 = .ok (.sipush 266, 3) := by decide +kernel
theorem dX4_readCord_60 : decode cX4_readCord 60 = .ok (.invokevirtual 142, 3) := by decide +kernel
theorem dX4_readCord_63 : decode cX4_readCord 63 = .ok (.ifCond .eq 26, 3) := by decide +kernel
theorem dX4_readCord_66 : decode cX4_readCord 66 = .ok (.aload_n 0, 1) := by decide +kernel
theorem dX4_readCord_67 : decode cX4_readCord 67 = .ok (.aload_n 0, 1) := by decide +kernel
theorem dX4_readCord_68 : decode cX4_readCord 68 = .ok (.getfield 44, 3) := by decide +kernel
theorem dX4_readCord_71 : decode cX4_readCord 71 = .ok (.getfield 186, 3) := by decide +kernel
theorem dX4_readCord_74 : decode cX4_readCord 74 = .ok (.iload_n 1, 1) := by decide +kernel
theorem dX4_readCord_75 : decode cX4_readCord 75 = .ok (.iconst 1, 1) := by decide +kernel
theorem dX4_readCord_76 : decode cX4_readCord 76 = .ok (.sipush 999, 3) := by decide +kernel
theorem dX4_readCord_79 : decode cX4_readCord 79 = .ok (.invokevirtual 179, 3) := by decide +kernel
theorem dX4_readCord_82 : decode cX4_readCord 82 = .ok (.ifCond .eq 7, 3) := by decide +kernel
theorem dX4_readCord_85 : decode cX4_readCord 85 = .ok (.iconst 1, 1) := by decide +kernel
theorem dX4_readCord_86 : decode cX4_readCord 86 = .ok (.goto 4, 3) := by decide +kernel
theorem dX4_readCord_90 : decode cX4_readCord 90 = .ok (.ireturn, 1) := by decide +kernel
theorem dX4_readCord_89 : decode cX4_readCord 89 = .ok (.iconst 0, 1) := by decide +kernel
theorem dX4_readSteps_0 : decode cX4_readSteps 0 = .ok (.iconst 0, 1) := by decide +kernel
theorem dX4_readSteps_1 : decode cX4_readSteps 1 = .ok (.istore_n 2, 1) := by decide +kernel
theorem dX4_readSteps_2 : decode cX4_readSteps 2 = .ok (.iload_n 2, 1) := by decide +kernel
theorem dX4_readSteps_3 : decode cX4_readSteps 3 = .ok (.bipush 8, 2) := by decide +kernel
theorem dX4_readSteps_5 : decode cX4_readSteps 5 = .ok (.if_icmp .ge 63, 3) := by decide +kernel
theorem dX4_readSteps_68 : decode cX4_readSteps 68 = .ok (.aload_n 0, 1) := by decide +kernel
theorem dX4_readSteps_69 : decode cX4_readSteps 69 = .ok (.getfield 44, 3) := by decide +kernel
theorem dX4_readSteps_72 : decode cX4_readSteps 72 = .ok (.getfield 195, 3) := by decide +kernel
theorem dX4_readSteps_75 : decode cX4_readSteps 75 = .ok (.iload_n 1, 1) := by decide +kernel
theorem dX4_readSteps_76 : decode cX4_readSteps 76 = .ok (.iload_n 2, 1) := by decide +kernel
theorem dX4_readSteps_77 : decode cX4_readSteps 77 = .ok (.iastore, 1) := by decide +kernel
theorem dX4_readSteps_78 : decode cX4_readSteps 78 = .ok (.iconst 1, 1) := by decide +kernel
theorem dX4_readSteps_79 : decode cX4_readSteps 79 = .ok (.ireturn, 1) := by decide +kernel
theorem dX4_readSteps_8 : decode cX4_readSteps 8 = .ok (.iload_n 2, 1) := by decide +kernel
theorem dX4_readSteps_9 : decode cX4_readSteps 9 = .ok (.ifCond .eq 11, 3) := by decide +kernel
theorem dX4_readSteps_20 : decode cX4_readSteps 20 = .ok (.aload_n 0, 1) := by decide +kernel
theorem dX4_readSteps_21 : decode cX4_readSteps 21 = .ok (.aload_n 0, 1) := by decide +kernel
theorem dX4_readSteps_22 : decode cX4_readSteps 22 = .ok (.getfield 44, 3) := by decide +kernel
theorem dX4_readSteps_25 : decode cX4_readSteps 25 = .ok (.getfield 188, 3) := by decide +kernel
theorem dX4_readSteps_28 : decode cX4_readSteps 28 = .ok (.iload_n 1, 1) := by decide +kernel
theorem dX4_readSteps_29 : decode cX4_readSteps 29 = .ok (.aaload, 1) := by decide +kernel
theorem dX4_readSteps_30 : decode cX4_readSteps 30 = .ok (.iload_n 2, 1) := by decide +kernel
theorem dX4_readSteps_31 : decode cX4_readSteps 31 = .ok (.iconst 0, 1) := by decide +kernel
theorem dX4_readSteps_32 : decode cX4_readSteps 32 = .ok (.bipush 99, 2) := by decide +kernel
theorem dX4_readSteps_34 : decode cX4_readSteps 34 = .ok (.invokevirtual 179, 3) := by decide +kernel
theorem dX4_readSteps_37 : decode cX4_readSteps 37 = .ok (.ifCond .eq 23, 3) := by decide +kernel
theorem dX4_readSteps_40 : decode cX4_readSteps 40 = .ok (.aload_n 0, 1) := by decide +kernel
theorem dX4_readSteps_41 : decode cX4_readSteps 41 = .ok (.aload_n 0, 1) := by decide +kernel
theorem dX4_readSteps_42 : decode cX4_readSteps 42 = .ok (.getfield 44, 3) := by decide +kernel
theorem dX4_readSteps_45 : decode cX4_readSteps 45 = .ok (.getfield 192, 3) := by decide +kernel
theorem dX4_readSteps_48 : decode cX4_readSteps 48 = .ok (.iload_n 1, 1) := by decide +kernel
theorem dX4_readSteps_49 : decode cX4_readSteps 49 = .ok (.aaload, 1) := by decide +kernel
theorem dX4_readSteps_50 : decode cX4_readSteps 50 = .ok (.iload_n 2, 1) := by decide +kernel
theorem dX4_readSteps_51 : decode cX4_readSteps 51 = .ok (.iconst 0, 1) := by decide +kernel
theorem dX4_readSteps_52 : decode cX4_readSteps 52 = .ok (.bipush 99, 2) := by decide +kernel
theorem dX4_readSteps_54 : decode cX4_readSteps 54 = .ok (.invokevirtual 179, 3) := by decide +kernel
theorem dX4_readSteps_57 : decode cX4_readSteps 57 = .ok (.ifCond .ne 5, 3) := by decide +kernel
theorem dX4_readSteps_62 : decode cX4_readSteps 62 = .ok (.iinc 2 1, 3) := by decide +kernel
theorem dX4_readSteps_65 : decode cX4_readSteps 65 = .ok (.goto (-63), 3) := by decide +kernel
theorem dX4_readSteps_60 : decode cX4_readSteps 60 = .ok (.iconst 0, 1) := by decide +kernel
theorem dX4_readSteps_61 : decode cX4_readSteps 61 = .ok (.ireturn, 1) := by decide +kernel
theorem dX4_readSteps_12 : decode cX4_readSteps 12 = .ok (.aload_n 0, 1) := by decide +kernel
theorem dX4_readSteps_13 : decode cX4_readSteps 13 = .ok (.getfield 28, 3) := by decide +kernel
theorem dX4_readSteps_16 : decode cX4_readSteps 16 = .ok (.iconst 3, 1) := by decide +kernel
theorem dX4_readSteps_17 : decode cX4_readSteps 17 = .ok (.if_icmp .ne 51, 3) := by decide +kernel
theorem dX4_readWant_0 : decode cX4_readWant 0 = .ok (.aload_n 0, 1) := by decide +kernel
theorem dX4_readWant_1 : decode cX4_readWant 1 = .ok (.sipush 274, 3) := by decide +kernel
theorem dX4_readWant_4 : decode cX4_readWant 4 = .ok (.invokevirtual 142, 3) := by decide +kernel
theorem dX4_readWant_7 : decode cX4_readWant 7 = .ok (.ifCond .eq 55, 3) := by decide +kernel
theorem dX4_readWant_10 : decode cX4_readWant 10 = .ok (.aload_n 0, 1) := by decide +kernel
theorem dX4_readWant_11 : decode cX4_readWant 11 = .ok (.aload_n 0, 1) := by decide +kernel
theorem dX4_readWant_12 : decode cX4_readWant 12 = .ok (.getfield 44, 3) := by decide +kernel
theorem dX4_readWant_15 : decode cX4_readWant 15 = .ok (.getfield 198, 3) := by decide +kernel
theorem dX4_readWant_18 : decode cX4_readWant 18 = .ok (.iload_n 1, 1) := by decide +kernel
theorem dX4_readWant_19 : decode cX4_readWant 19 = .ok (.iconst 1, 1) := by decide +kernel
theorem dX4_readWant_20 : decode cX4_readWant 20 = .ok (.sipush 2000, 3) := by decide +kernel
theorem dX4_readWant_23 : decode cX4_readWant 23 = .ok (.invokevirtual 179, 3) := by decide +kernel
theorem dX4_readWant_26 : decode cX4_readWant 26 = .ok (.ifCond .eq 36, 3) := by decide +kernel
theorem dX4_readWant_29 : decode cX4_readWant 29 = .ok (.aload_n 0, 1) := by decide +kernel
theorem dX4_readWant_30 : decode cX4_readWant 30 = .ok (.sipush 273, 3) := by decide +kernel
theorem dX4_readWant_33 : decode cX4_readWant 33 = .ok (.invokevirtual 142, 3) := by decide +kernel
theorem dX4_readWant_36 : decode cX4_readWant 36 = .ok (.ifCond .eq 26, 3) := by decide +kernel
theorem dX4_readWant_39 : decode cX4_readWant 39 = .ok (.aload_n 0, 1) := by decide +kernel
theorem dX4_readWant_40 : decode cX4_readWant 40 = .ok (.aload_n 0, 1) := by decide +kernel
theorem dX4_readWant_41 : decode cX4_readWant 41 = .ok (.getfield 44, 3) := by decide +kernel
theorem dX4_readWant_44 : decode cX4_readWant 44 = .ok (.getfield 201, 3) := by decide +kernel
theorem dX4_readWant_47 : decode cX4_readWant 47 = .ok (.iload_n 1, 1) := by decide +kernel
theorem dX4_readWant_48 : decode cX4_readWant 48 = .ok (.iconst 0, 1) := by decide +kernel
theorem dX4_readWant_49 : decode cX4_readWant 49 = .ok (.sipush 999, 3) := by decide +kernel
theorem dX4_readWant_52 : decode cX4_readWant 52 = .ok (.invokevirtual 179, 3) := by decide +kernel
theorem dX4_readWant_55 : decode cX4_readWant 55 = .ok (.ifCond .eq 7, 3) := by decide +kernel
theorem dX4_readWant_58 : decode cX4_readWant 58 = .ok (.iconst 1, 1) := by decide +kernel
theorem dX4_readWant_59 : decode cX4_readWant 59 = .ok (.goto 4, 3) := by decide +kernel
theorem dX4_readWant_63 : decode cX4_readWant 63 = .ok (.ireturn, 1) := by decide +kernel
theorem dX4_readWant_62 : decode cX4_readWant 62 = .ok (.iconst 0, 1) := by decide +kernel
theorem dX4_readOnce_0 : decode cX4_readOnce 0 = .ok (.aload_n 0, 1) := by decide +kernel
theorem dX4_readOnce_1 : decode cX4_readOnce 1 = .ok (.getfield 44, 3) := by decide +kernel
theorem dX4_readOnce_4 : decode cX4_readOnce 4 = .ok (.getfield 204, 3) := by decide +kernel
theorem dX4_readOnce_7 : decode cX4_readOnce 7 = .ok (.iload_n 1, 1) := by decide +kernel
theorem dX4_readOnce_8 : decode cX4_readOnce 8 = .ok (.baload, 1) := by decide +kernel
theorem dX4_readOnce_9 : decode cX4_readOnce 9 = .ok (.ifCond .eq 9, 3) := by decide +kernel
theorem dX4_readOnce_18 : decode cX4_readOnce 18 = .ok (.aload_n 0, 1) := by decide +kernel
theorem dX4_readOnce_19 : decode cX4_readOnce 19 = .ok (.getfield 44, 3) := by decide +kernel
theorem dX4_readOnce_22 : decode cX4_readOnce 22 = .ok (.getfield 204, 3) := by decide +kernel
theorem dX4_readOnce_25 : decode cX4_readOnce 25 = .ok (.iload_n 1, 1) := by decide +kernel
theorem dX4_readOnce_26 : decode cX4_readOnce 26 = .ok (.iconst 1, 1) := by decide +kernel
theorem dX4_readOnce_27 : decode cX4_readOnce 27 = .ok (.bastore, 1) := by decide +kernel
theorem dX4_readOnce_28 : decode cX4_readOnce 28 = .ok (.aload_n 0, 1) := by decide +kernel
theorem dX4_readOnce_29 : decode cX4_readOnce 29 = .ok (.invokevirtual 78, 3) := by decide +kernel
theorem dX4_readOnce_32 : decode cX4_readOnce 32 = .ok (.aload_n 0, 1) := by decide +kernel
theorem dX4_readOnce_33 : decode cX4_readOnce 33 = .ok (.aload_n 0, 1) := by decide +kernel
theorem dX4_readOnce_34 : decode cX4_readOnce 34 = .ok (.getfield 44, 3) := by decide +kernel
theorem dX4_readOnce_37 : decode cX4_readOnce 37 = .ok (.getfield 208, 3) := by decide +kernel
theorem dX4_readOnce_40 : decode cX4_readOnce 40 = .ok (.iload_n 1, 1) := by decide +kernel
theorem dX4_readOnce_41 : decode cX4_readOnce 41 = .ok (.iload_n 2, 1) := by decide +kernel
theorem dX4_readOnce_42 : decode cX4_readOnce 42 = .ok (.iload_n 3, 1) := by decide +kernel
theorem dX4_readOnce_43 : decode cX4_readOnce 43 = .ok (.invokevirtual 179, 3) := by decide +kernel
theorem dX4_readOnce_46 : decode cX4_readOnce 46 = .ok (.ifCond .eq 16, 3) := by decide +kernel
theorem dX4_readOnce_49 : decode cX4_readOnce 49 = .ok (.aload_n 0, 1) := by decide +kernel
theorem dX4_readOnce_50 : decode cX4_readOnce 50 = .ok (.bipush 59, 2) := by decide +kernel
theorem dX4_readOnce_52 : decode cX4_readOnce 52 = .ok (.invokevirtual 142, 3) := by decide +kernel
theorem dX4_readOnce_55 : decode cX4_readOnce 55 = .ok (.ifCond .eq 7, 3) := by decide +kernel
theorem dX4_readOnce_58 : decode cX4_readOnce 58 = .ok (.iconst 1, 1) := by decide +kernel
theorem dX4_readOnce_59 : decode cX4_readOnce 59 = .ok (.goto 4, 3) := by decide +kernel
theorem dX4_readOnce_63 : decode cX4_readOnce 63 = .ok (.ireturn, 1) := by decide +kernel
theorem dX4_readOnce_62 : decode cX4_readOnce 62 = .ok (.iconst 0, 1) := by decide +kernel
theorem dX4_readOnce_12 : decode cX4_readOnce 12 = .ok (.aload_n 0, 1) := by decide +kernel
theorem dX4_readOnce_13 : decode cX4_readOnce 13 = .ok (.iconst 2, 1) := by decide +kernel
theorem dX4_readOnce_14 : decode cX4_readOnce 14 = .ok (.invokevirtual 124, 3) := by decide +kernel
theorem dX4_readOnce_17 : decode cX4_readOnce 17 = .ok (.ireturn, 1) := by decide +kernel
theorem dX4_readLine_0 : decode cX4_readLine 0 = .ok (.aload_n 0, 1) := by decide +kernel
theorem dX4_readLine_1 : decode cX4_readLine 1 = .ok (.getfield 28, 3) := by decide +kernel
theorem dX4_readLine_4 : decode cX4_readLine 4 = .ok (.tableswitch 327 256 269 #[72, 110, 148, 186, 270, 308, 327, 327, 327, 327, 327, 327, 327, 318], 72) := by decide +kernel
theorem dX4_readLine_76 : decode cX4_readLine 76 = .ok (.aload_n 0, 1) := by decide +kernel
theorem dX4_readLine_77 : decode cX4_readLine 77 = .ok (.iconst 0, 1) := by decide +kernel
theorem dX4_readLine_78 : decode cX4_readLine 78 = .ok (.invokevirtual 127, 3) := by decide +kernel
theorem dX4_readLine_81 : decode cX4_readLine 81 = .ok (.ifCond .eq 31, 3) := by decide +kernel
theorem dX4_readLine_84 : decode cX4_readLine 84 = .ok (.aload_n 0, 1) := by decide +kernel
theorem dX4_readLine_85 : decode cX4_readLine 85 = .ok (.aload_n 0, 1) := by decide +kernel
theorem dX4_readLine_86 : decode cX4_readLine 86 = .ok (.getfield 44, 3) := by decide +kernel
theorem dX4_readLine_89 : decode cX4_readLine 89 = .ok (.getfield 85, 3) := by decide +kernel
theorem dX4_readLine_92 : decode cX4_readLine 92 = .ok (.iconst 0, 1) := by decide +kernel
theorem dX4_readLine_93 : decode cX4_readLine 93 = .ok (.iaload, 1) := by decide +kernel
theorem dX4_readLine_94 : decode cX4_readLine 94 = .ok (.invokevirtual 130, 3) := by decide +kernel
theorem dX4_readLine_97 : decode cX4_readLine 97 = .ok (.ifCond .eq 15, 3) := by decide +kernel
theorem dX4_readLine_100 : decode cX4_readLine 100 = .ok (.aload_n 0, 1) := by decide +kernel
theorem dX4_readLine_101 : decode cX4_readLine 101 = .ok (.iconst 0, 1) := by decide +kernel
theorem dX4_readLine_102 : decode cX4_readLine 102 = .ok (.invokevirtual 133, 3) := by decide +kernel
theorem dX4_readLine_105 : decode cX4_readLine 105 = .ok (.ifCond .eq 7, 3) := by decide +kernel
theorem dX4_readLine_108 : decode cX4_readLine 108 = .ok (.iconst 1, 1) := by decide +kernel
theorem dX4_readLine_109 : decode cX4_readLine 109 = .ok (.goto 4, 3) := by decide +kernel
theorem dX4_readLine_113 : decode cX4_readLine 113 = .ok (.ireturn, 1) := by decide +kernel
theorem dX4_readLine_112 : decode cX4_readLine 112 = .ok (.iconst 0, 1) := by decide +kernel
theorem dX4_readLine_114 : decode cX4_readLine 114 = .ok (.aload_n 0, 1) := by decide +kernel
theorem dX4_readLine_115 : decode cX4_readLine 115 = .ok (.iconst 1, 1) := by decide +kernel
theorem dX4_readLine_116 : decode cX4_readLine 116 = .ok (.invokevirtual 127, 3) := by decide +kernel
theorem dX4_readLine_119 : decode cX4_readLine 119 = .ok (.ifCond .eq 31, 3) := by decide +kernel
theorem dX4_readLine_122 : decode cX4_readLine 122 = .ok (.aload_n 0, 1) := by decide +kernel
theorem dX4_readLine_123 : decode cX4_readLine 123 = .ok (.aload_n 0, 1) := by decide +kernel
theorem dX4_readLine_124 : decode cX4_readLine 124 = .ok (.getfield 44, 3) := by decide +kernel
theorem dX4_readLine_127 : decode cX4_readLine 127 = .ok (.getfield 85, 3) := by decide +kernel
theorem dX4_readLine_130 : decode cX4_readLine 130 = .ok (.iconst 1, 1) := by decide +kernel
theorem dX4_readLine_131 : decode cX4_readLine 131 = .ok (.iaload, 1) := by decide +kernel
theorem dX4_readLine_132 : decode cX4_readLine 132 = .ok (.invokevirtual 136, 3) := by decide +kernel
theorem dX4_readLine_135 : decode cX4_readLine 135 = .ok (.ifCond .eq 15, 3) := by decide +kernel
theorem dX4_readLine_138 : decode cX4_readLine 138 = .ok (.aload_n 0, 1) := by decide +kernel
theorem dX4_readLine_139 : decode cX4_readLine 139 = .ok (.iconst 1, 1) := by decide +kernel
theorem dX4_readLine_140 : decode cX4_readLine 140 = .ok (.invokevirtual 133, 3) := by decide +kernel
theorem dX4_readLine_143 : decode cX4_readLine 143 = .ok (.ifCond .eq 7, 3) := by decide +kernel
theorem dX4_readLine_146 : decode cX4_readLine 146 = .ok (.iconst 1, 1) := by decide +kernel
theorem dX4_readLine_147 : decode cX4_readLine 147 = .ok (.goto 4, 3) := by decide +kernel
theorem dX4_readLine_151 : decode cX4_readLine 151 = .ok (.ireturn, 1) := by decide +kernel
theorem dX4_readLine_150 : decode cX4_readLine 150 = .ok (.iconst 0, 1) := by decide +kernel
theorem dX4_readLine_152 : decode cX4_readLine 152 = .ok (.aload_n 0, 1) := by decide +kernel
theorem dX4_readLine_153 : decode cX4_readLine 153 = .ok (.iconst 2, 1) := by decide +kernel
theorem dX4_readLine_154 : decode cX4_readLine 154 = .ok (.invokevirtual 127, 3) := by decide +kernel
theorem dX4_readLine_157 : decode cX4_readLine 157 = .ok (.ifCond .eq 31, 3) := by decide +kernel
theorem dX4_readLine_160 : decode cX4_readLine 160 = .ok (.aload_n 0, 1) := by decide +kernel
theorem dX4_readLine_161 : decode cX4_readLine 161 = .ok (.aload_n 0, 1) := by decide +kernel
theorem dX4_readLine_162 : decode cX4_readLine 162 = .ok (.getfield 44, 3) := by decide +kernel
theorem dX4_readLine_165 : decode cX4_readLine 165 = .ok (.getfield 85, 3) := by decide +kernel
theorem dX4_readLine_168 : decode cX4_readLine 168 = .ok (.iconst 2, 1) := by decide +kernel
theorem dX4_readLine_169 : decode cX4_readLine 169 = .ok (.iaload, 1) := by decide +kernel
theorem dX4_readLine_170 : decode cX4_readLine 170 = .ok (.invokevirtual 139, 3) := by decide +kernel
theorem dX4_readLine_173 : decode cX4_readLine 173 = .ok (.ifCond .eq 15, 3) := by decide +kernel
theorem dX4_readLine_176 : decode cX4_readLine 176 = .ok (.aload_n 0, 1) := by decide +kernel
theorem dX4_readLine_177 : decode cX4_readLine 177 = .ok (.iconst 2, 1) := by decide +kernel
theorem dX4_readLine_178 : decode cX4_readLine 178 = .ok (.invokevirtual 133, 3) := by decide +kernel
theorem dX4_readLine_181 : decode cX4_readLine 181 = .ok (.ifCond .eq 7, 3) := by decide +kernel
theorem dX4_readLine_184 : decode cX4_readLine 184 = .ok (.iconst 1, 1) := by decide +kernel
theorem dX4_readLine_185 : decode cX4_readLine 185 = .ok (.goto 4, 3) := by decide +kernel
theorem dX4_readLine_189 : decode cX4_readLine 189 = .ok (.ireturn, 1) := by decide +kernel
theorem dX4_readLine_188 : decode cX4_readLine 188 = .ok (.iconst 0, 1) := by decide +kernel
theorem dX4_readLine_190 : decode cX4_readLine 190 = .ok (.aload_n 0, 1) := by decide +kernel
theorem dX4_readLine_191 : decode cX4_readLine 191 = .ok (.iconst 3, 1) := by decide +kernel
theorem dX4_readLine_192 : decode cX4_readLine 192 = .ok (.invokevirtual 127, 3) := by decide +kernel
theorem dX4_readLine_195 : decode cX4_readLine 195 = .ok (.ifCond .eq 77, 3) := by decide +kernel
theorem dX4_readLine_198 : decode cX4_readLine 198 = .ok (.aload_n 0, 1) := by decide +kernel
theorem dX4_readLine_199 : decode cX4_readLine 199 = .ok (.sipush 272, 3) := by decide +kernel
theorem dX4_readLine_202 : decode cX4_readLine 202 = .ok (.invokevirtual 142, 3) := by decide +kernel
theorem dX4_readLine_205 : decode cX4_readLine 205 = .ok (.ifCond .eq 67, 3) := by decide +kernel
theorem dX4_readLine_208 : decode cX4_readLine 208 = .ok (.aload_n 0, 1) := by decide +kernel
theorem dX4_readLine_209 : decode cX4_readLine 209 = .ok (.iconst 0, 1) := by decide +kernel
theorem dX4_readLine_210 : decode cX4_readLine 210 = .ok (.invokevirtual 145, 3) := by decide +kernel
theorem dX4_readLine_213 : decode cX4_readLine 213 = .ok (.ifCond .eq 59, 3) := by decide +kernel
theorem dX4_readLine_216 : decode cX4_readLine 216 = .ok (.aload_n 0, 1) := by decide +kernel
theorem dX4_readLine_217 : decode cX4_readLine 217 = .ok (.getfield 44, 3) := by decide +kernel
theorem dX4_readLine_220 : decode cX4_readLine 220 = .ok (.getfield 89, 3) := by decide +kernel
theorem dX4_readLine_223 : decode cX4_readLine 223 = .ok (.invokevirtual 148, 3) := by decide +kernel
theorem dX4_readLine_226 : decode cX4_readLine 226 = .ok (.ifCond .eq 46, 3) := by decide +kernel
theorem dX4_readLine_229 : decode cX4_readLine 229 = .ok (.aload_n 0, 1) := by decide +kernel
theorem dX4_readLine_230 : decode cX4_readLine 230 = .ok (.sipush 273, 3) := by decide +kernel
theorem dX4_readLine_233 : decode cX4_readLine 233 = .ok (.invokevirtual 142, 3) := by decide +kernel
theorem dX4_readLine_236 : decode cX4_readLine 236 = .ok (.ifCond .eq 36, 3) := by decide +kernel
theorem dX4_readLine_239 : decode cX4_readLine 239 = .ok (.aload_n 0, 1) := by decide +kernel
theorem dX4_readLine_240 : decode cX4_readLine 240 = .ok (.iconst 0, 1) := by decide +kernel
theorem dX4_readLine_241 : decode cX4_readLine 241 = .ok (.invokevirtual 145, 3) := by decide +kernel
theorem dX4_readLine_244 : decode cX4_readLine 244 = .ok (.ifCond .eq 28, 3) := by decide +kernel
theorem dX4_readLine_247 : decode cX4_readLine 247 = .ok (.aload_n 0, 1) := by decide +kernel
theorem dX4_readLine_248 : decode cX4_readLine 248 = .ok (.getfield 44, 3) := by decide +kernel
theorem dX4_readLine_251 : decode cX4_readLine 251 = .ok (.getfield 89, 3) := by decide +kernel
theorem dX4_readLine_254 : decode cX4_readLine 254 = .ok (.invokevirtual 148, 3) := by decide +kernel
theorem dX4_readLine_257 : decode cX4_readLine 257 = .ok (.ifCond .eq 15, 3) := by decide +kernel
theorem dX4_readLine_260 : decode cX4_readLine 260 = .ok (.aload_n 0, 1) := by decide +kernel
theorem dX4_readLine_261 : decode cX4_readLine 261 = .ok (.iconst 3, 1) := by decide +kernel
theorem dX4_readLine_262 : decode cX4_readLine 262 = .ok (.invokevirtual 133, 3) := by decide +kernel
theorem dX4_readLine_265 : decode cX4_readLine 265 = .ok (.ifCond .eq 7, 3) := by decide +kernel
theorem dX4_readLine_268 : decode cX4_readLine 268 = .ok (.iconst 1, 1) := by decide +kernel
theorem dX4_readLine_269 : decode cX4_readLine 269 = .ok (.goto 4, 3) := by decide +kernel
theorem dX4_readLine_273 : decode cX4_readLine 273 = .ok (.ireturn, 1) := by decide +kernel
theorem dX4_readLine_272 : decode cX4_readLine 272 = .ok (.iconst 0, 1) := by decide +kernel
theorem dX4_readLine_274 : decode cX4_readLine 274 = .ok (.aload_n 0, 1) := by decide +kernel
theorem dX4_readLine_275 : decode cX4_readLine 275 = .ok (.iconst 4, 1) := by decide +kernel
theorem dX4_readLine_276 : decode cX4_readLine 276 = .ok (.invokevirtual 127, 3) := by decide +kernel
theorem dX4_readLine_279 : decode cX4_readLine 279 = .ok (.ifCond .eq 31, 3) := by decide +kernel
theorem dX4_readLine_282 : decode cX4_readLine 282 = .ok (.aload_n 0, 1) := by decide +kernel
theorem dX4_readLine_283 : decode cX4_readLine 283 = .ok (.aload_n 0, 1) := by decide +kernel
theorem dX4_readLine_284 : decode cX4_readLine 284 = .ok (.getfield 44, 3) := by decide +kernel
theorem dX4_readLine_287 : decode cX4_readLine 287 = .ok (.getfield 85, 3) := by decide +kernel
theorem dX4_readLine_290 : decode cX4_readLine 290 = .ok (.iconst 4, 1) := by decide +kernel
theorem dX4_readLine_291 : decode cX4_readLine 291 = .ok (.iaload, 1) := by decide +kernel
theorem dX4_readLine_292 : decode cX4_readLine 292 = .ok (.invokevirtual 151, 3) := by decide +kernel
theorem dX4_readLine_295 : decode cX4_readLine 295 = .ok (.ifCond .eq 15, 3) := by decide +kernel
theorem dX4_readLine_298 : decode cX4_readLine 298 = .ok (.aload_n 0, 1) := by decide +kernel
theorem dX4_readLine_299 : decode cX4_readLine 299 = .ok (.iconst 4, 1) := by decide +kernel
theorem dX4_readLine_300 : decode cX4_readLine 300 = .ok (.invokevirtual 133, 3) := by decide +kernel
theorem dX4_readLine_303 : decode cX4_readLine 303 = .ok (.ifCond .eq 7, 3) := by decide +kernel
theorem dX4_readLine_306 : decode cX4_readLine 306 = .ok (.iconst 1, 1) := by decide +kernel
theorem dX4_readLine_307 : decode cX4_readLine 307 = .ok (.goto 4, 3) := by decide +kernel
theorem dX4_readLine_311 : decode cX4_readLine 311 = .ok (.ireturn, 1) := by decide +kernel
theorem dX4_readLine_310 : decode cX4_readLine 310 = .ok (.iconst 0, 1) := by decide +kernel
theorem dX4_readLine_312 : decode cX4_readLine 312 = .ok (.aload_n 0, 1) := by decide +kernel
theorem dX4_readLine_313 : decode cX4_readLine 313 = .ok (.iconst 0, 1) := by decide +kernel
theorem dX4_readLine_314 : decode cX4_readLine 314 = .ok (.iconst 1, 1) := by decide +kernel
theorem dX4_readLine_315 : decode cX4_readLine 315 = .ok (.sipush 999, 3) := by decide +kernel
theorem dX4_readLine_318 : decode cX4_readLine 318 = .ok (.invokevirtual 154, 3) := by decide +kernel
theorem dX4_readLine_321 : decode cX4_readLine 321 = .ok (.ireturn, 1) := by decide +kernel
theorem dX4_readLine_331 : decode cX4_readLine 331 = .ok (.aload_n 0, 1) := by decide +kernel
theorem dX4_readLine_332 : decode cX4_readLine 332 = .ok (.iconst 2, 1) := by decide +kernel
theorem dX4_readLine_333 : decode cX4_readLine 333 = .ok (.invokevirtual 124, 3) := by decide +kernel
theorem dX4_readLine_336 : decode cX4_readLine 336 = .ok (.ireturn, 1) := by decide +kernel
theorem dX4_readLine_322 : decode cX4_readLine 322 = .ok (.aload_n 0, 1) := by decide +kernel
theorem dX4_readLine_323 : decode cX4_readLine 323 = .ok (.iconst 1, 1) := by decide +kernel
theorem dX4_readLine_324 : decode cX4_readLine 324 = .ok (.iconst 0, 1) := by decide +kernel
theorem dX4_readLine_325 : decode cX4_readLine 325 = .ok (.bipush 49, 2) := by decide +kernel
theorem dX4_readLine_327 : decode cX4_readLine 327 = .ok (.invokevirtual 154, 3) := by decide +kernel
theorem dX4_readLine_330 : decode cX4_readLine 330 = .ok (.ireturn, 1) := by decide +kernel
theorem dX4_readShop_0 : decode cX4_readShop 0 = .ok (.aload_n 0, 1) := by decide +kernel
theorem dX4_readShop_1 : decode cX4_readShop 1 = .ok (.aload_n 1, 1) := by decide +kernel
theorem dX4_readShop_2 : decode cX4_readShop 2 = .ok (.putfield 17, 3) := by decide +kernel
theorem dX4_readShop_5 : decode cX4_readShop 5 = .ok (.aload_n 0, 1) := by decide +kernel
theorem dX4_readShop_6 : decode cX4_readShop 6 = .ok (.iload_n 2, 1) := by decide +kernel
theorem dX4_readShop_7 : decode cX4_readShop 7 = .ok (.aload_n 1, 1) := by decide +kernel
theorem dX4_readShop_8 : decode cX4_readShop 8 = .ok (.arraylength, 1) := by decide +kernel
theorem dX4_readShop_9 : decode cX4_readShop 9 = .ok (.invokestatic 69, 3) := by decide +kernel
theorem dX4_readShop_12 : decode cX4_readShop 12 = .ok (.putfield 21, 3) := by decide +kernel
theorem dX4_readShop_15 : decode cX4_readShop 15 = .ok (.aload_n 0, 1) := by decide +kernel
theorem dX4_readShop_16 : decode cX4_readShop 16 = .ok (.iconst 0, 1) := by decide +kernel
theorem dX4_readShop_17 : decode cX4_readShop 17 = .ok (.putfield 25, 3) := by decide +kernel
theorem dX4_readShop_20 : decode cX4_readShop 20 = .ok (.aload_n 0, 1) := by decide +kernel
theorem dX4_readShop_21 : decode cX4_readShop 21 = .ok (.iconst 0, 1) := by decide +kernel
theorem dX4_readShop_22 : decode cX4_readShop 22 = .ok (.putfield 48, 3) := by decide +kernel
theorem dX4_readShop_25 : decode cX4_readShop 25 = .ok (.aload_n 0, 1) := by decide +kernel
theorem dX4_readShop_26 : decode cX4_readShop 26 = .ok (.iconst (-1), 1) := by decide +kernel
theorem dX4_readShop_27 : decode cX4_readShop 27 = .ok (.putfield 51, 3) := by decide +kernel
theorem dX4_readShop_30 : decode cX4_readShop 30 = .ok (.aload_n 0, 1) := by decide +kernel
theorem dX4_readShop_31 : decode cX4_readShop 31 = .ok (.getfield 44, 3) := by decide +kernel
theorem dX4_readShop_34 : decode cX4_readShop 34 = .ok (.invokevirtual 75, 3) := by decide +kernel
theorem dX4_readShop_37 : decode cX4_readShop 37 = .ok (.aload_n 0, 1) := by decide +kernel
theorem dX4_readShop_38 : decode cX4_readShop 38 = .ok (.invokevirtual 78, 3) := by decide +kernel
theorem dX4_readShop_41 : decode cX4_readShop 41 = .ok (.iconst 0, 1) := by decide +kernel
theorem dX4_readShop_42 : decode cX4_readShop 42 = .ok (.istore_n 3, 1) := by decide +kernel
theorem dX4_readShop_43 : decode cX4_readShop 43 = .ok (.iload_n 3, 1) := by decide +kernel
theorem dX4_readShop_44 : decode cX4_readShop 44 = .ok (.aload_n 0, 1) := by decide +kernel
theorem dX4_readShop_45 : decode cX4_readShop 45 = .ok (.getfield 21, 3) := by decide +kernel
theorem dX4_readShop_48 : decode cX4_readShop 48 = .ok (.if_icmp .gt 25, 3) := by decide +kernel
theorem dX4_readShop_73 : decode cX4_readShop 73 = .ok (.aload_n 0, 1) := by decide +kernel
theorem dX4_readShop_74 : decode cX4_readShop 74 = .ok (.getfield 44, 3) := by decide +kernel
theorem dX4_readShop_77 : decode cX4_readShop 77 = .ok (.getfield 85, 3) := by decide +kernel
theorem dX4_readShop_80 : decode cX4_readShop 80 = .ok (.iconst 3, 1) := by decide +kernel
theorem dX4_readShop_81 : decode cX4_readShop 81 = .ok (.iaload, 1) := by decide +kernel
theorem dX4_readShop_82 : decode cX4_readShop 82 = .ok (.ifCond .ne 13, 3) := by decide +kernel
theorem dX4_readShop_95 : decode cX4_readShop 95 = .ok (.iconst 1, 1) := by decide +kernel
theorem dX4_readShop_96 : decode cX4_readShop 96 = .ok (.ireturn, 1) := by decide +kernel
theorem dX4_readShop_85 : decode cX4_readShop 85 = .ok (.aload_n 0, 1) := by decide +kernel
theorem dX4_readShop_86 : decode cX4_readShop 86 = .ok (.getfield 44, 3) := by decide +kernel
theorem dX4_readShop_89 : decode cX4_readShop 89 = .ok (.getfield 89, 3) := by decide +kernel
theorem dX4_readShop_92 : decode cX4_readShop 92 = .ok (.invokevirtual 93, 3) := by decide +kernel
theorem dX4_readShop_51 : decode cX4_readShop 51 = .ok (.aload_n 0, 1) := by decide +kernel
theorem dX4_readShop_52 : decode cX4_readShop 52 = .ok (.getfield 28, 3) := by decide +kernel
theorem dX4_readShop_55 : decode cX4_readShop 55 = .ok (.ifCond .eq 18, 3) := by decide +kernel
theorem dX4_readShop_58 : decode cX4_readShop 58 = .ok (.aload_n 0, 1) := by decide +kernel
theorem dX4_readShop_59 : decode cX4_readShop 59 = .ok (.invokevirtual 81, 3) := by decide +kernel
theorem dX4_readShop_62 : decode cX4_readShop 62 = .ok (.ifCond .ne 5, 3) := by decide +kernel
theorem dX4_readShop_67 : decode cX4_readShop 67 = .ok (.iinc 3 1, 3) := by decide +kernel
theorem dX4_readShop_70 : decode cX4_readShop 70 = .ok (.goto (-27), 3) := by decide +kernel
theorem dX4_readShop_65 : decode cX4_readShop 65 = .ok (.iconst 0, 1) := by decide +kernel
theorem dX4_readShop_66 : decode cX4_readShop 66 = .ok (.ireturn, 1) := by decide +kernel
