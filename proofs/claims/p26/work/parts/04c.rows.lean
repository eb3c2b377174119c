theorem dX5_has_0 : decode cX5_has 0 = .ok (.iload_n 2, 1) := by decide +kernel
theorem dX5_has_1 : decode cX5_has 1 = .ok (.ifCond .lt 17, 3) := by decide +kernel
theorem dX5_has_18 : decode cX5_has 18 = .ok (.iconst 0, 1) := by decide +kernel
theorem dX5_has_19 : decode cX5_has 19 = .ok (.ireturn, 1) := by decide +kernel
theorem dX5_has_4 : decode cX5_has 4 = .ok (.iload_n 2, 1) := by decide +kernel
theorem dX5_has_5 : decode cX5_has 5 = .ok (.aload_n 0, 1) := by decide +kernel
theorem dX5_has_6 : decode cX5_has 6 = .ok (.getfield 9, 3) := by decide +kernel
theorem dX5_has_9 : decode cX5_has 9 = .ok (.iload_n 1, 1) := by decide +kernel
theorem dX5_has_10 : decode cX5_has 10 = .ok (.iaload, 1) := by decide +kernel
theorem dX5_has_11 : decode cX5_has 11 = .ok (.if_icmp .ge 7, 3) := by decide +kernel
theorem dX5_has_14 : decode cX5_has 14 = .ok (.iconst 1, 1) := by decide +kernel
theorem dX5_has_15 : decode cX5_has 15 = .ok (.goto 4, 3) := by decide +kernel
theorem dX5_most_0 : decode cX5_most 0 = .ok (.iload_n 0, 1) := by decide +kernel
theorem dX5_most_1 : decode cX5_most 1 = .ok (.tableswitch 40 0 3 #[31, 34, 36, 38], 31) := by decide +kernel
theorem dX5_most_32 : decode cX5_most 32 = .ok (.bipush 6, 2) := by decide +kernel
theorem dX5_most_34 : decode cX5_most 34 = .ok (.ireturn, 1) := by decide +kernel
theorem dX5_most_35 : decode cX5_most 35 = .ok (.iconst 4, 1) := by decide +kernel
theorem dX5_most_36 : decode cX5_most 36 = .ok (.ireturn, 1) := by decide +kernel
theorem dX5_most_37 : decode cX5_most 37 = .ok (.iconst 4, 1) := by decide +kernel
theorem dX5_most_38 : decode cX5_most 38 = .ok (.ireturn, 1) := by decide +kernel
theorem dX5_most_39 : decode cX5_most 39 = .ok (.iconst 3, 1) := by decide +kernel
theorem dX5_most_40 : decode cX5_most 40 = .ok (.ireturn, 1) := by decide +kernel
theorem dX5_most_41 : decode cX5_most 41 = .ok (.iconst 4, 1) := by decide +kernel
theorem dX5_most_42 : decode cX5_most 42 = .ok (.ireturn, 1) := by decide +kernel
theorem dX5_lawsAsked_0 : decode cX5_lawsAsked 0 = .ok (.iconst 1, 1) := by decide +kernel
theorem dX5_lawsAsked_1 : decode cX5_lawsAsked 1 = .ok (.aload_n 0, 1) := by decide +kernel
theorem dX5_lawsAsked_2 : decode cX5_lawsAsked 2 = .ok (.getfield 9, 3) := by decide +kernel
theorem dX5_lawsAsked_5 : decode cX5_lawsAsked 5 = .ok (.iconst 3, 1) := by decide +kernel
theorem dX5_lawsAsked_6 : decode cX5_lawsAsked 6 = .ok (.iaload, 1) := by decide +kernel
theorem dX5_lawsAsked_7 : decode cX5_lawsAsked 7 = .ok (.invokestatic 67, 3) := by decide +kernel
theorem dX5_lawsAsked_10 : decode cX5_lawsAsked 10 = .ok (.ireturn, 1) := by decide +kernel
theorem dX5_hasPair_0 : decode cX5_hasPair 0 = .ok (.iload_n 1, 1) := by decide +kernel
theorem dX5_hasPair_1 : decode cX5_hasPair 1 = .ok (.ifCond .lt 28, 3) := by decide +kernel
theorem dX5_hasPair_29 : decode cX5_hasPair 29 = .ok (.iconst 0, 1) := by decide +kernel
theorem dX5_hasPair_30 : decode cX5_hasPair 30 = .ok (.ireturn, 1) := by decide +kernel
theorem dX5_hasPair_4 : decode cX5_hasPair 4 = .ok (.iload_n 1, 1) := by decide +kernel
theorem dX5_hasPair_5 : decode cX5_hasPair 5 = .ok (.iconst 4, 1) := by decide +kernel
theorem dX5_hasPair_6 : decode cX5_hasPair 6 = .ok (.idiv, 1) := by decide +kernel
theorem dX5_hasPair_7 : decode cX5_hasPair 7 = .ok (.aload_n 0, 1) := by decide +kernel
theorem dX5_hasPair_8 : decode cX5_hasPair 8 = .ok (.invokevirtual 73, 3) := by decide +kernel
theorem dX5_hasPair_11 : decode cX5_hasPair 11 = .ok (.if_icmp .ge 18, 3) := by decide +kernel
theorem dX5_hasPair_14 : decode cX5_hasPair 14 = .ok (.aload_n 0, 1) := by decide +kernel
theorem dX5_hasPair_15 : decode cX5_hasPair 15 = .ok (.iconst 1, 1) := by decide +kernel
theorem dX5_hasPair_16 : decode cX5_hasPair 16 = .ok (.iload_n 1, 1) := by decide +kernel
theorem dX5_hasPair_17 : decode cX5_hasPair 17 = .ok (.iconst 4, 1) := by decide +kernel
theorem dX5_hasPair_18 : decode cX5_hasPair 18 = .ok (.irem, 1) := by decide +kernel
theorem dX5_hasPair_19 : decode cX5_hasPair 19 = .ok (.invokevirtual 77, 3) := by decide +kernel
theorem dX5_hasPair_22 : decode cX5_hasPair 22 = .ok (.ifCond .eq 7, 3) := by decide +kernel
theorem dX5_hasPair_25 : decode cX5_hasPair 25 = .ok (.iconst 1, 1) := by decide +kernel
theorem dX5_hasPair_26 : decode cX5_hasPair 26 = .ok (.goto 4, 3) := by decide +kernel
theorem dX5_isNamed_0 : decode cX5_isNamed 0 = .ok (.iconst 0, 1) := by decide +kernel
theorem dX5_isNamed_1 : decode cX5_isNamed 1 = .ok (.istore 4, 2) := by decide +kernel
theorem dX5_isNamed_3 : decode cX5_isNamed 3 = .ok (.iload 4, 2) := by decide +kernel
theorem dX5_isNamed_5 : decode cX5_isNamed 5 = .ok (.aload_n 0, 1) := by decide +kernel
theorem dX5_isNamed_6 : decode cX5_isNamed 6 = .ok (.getfield 9, 3) := by decide +kernel
theorem dX5_isNamed_9 : decode cX5_isNamed 9 = .ok (.iload_n 1, 1) := by decide +kernel
theorem dX5_isNamed_10 : decode cX5_isNamed 10 = .ok (.iaload, 1) := by decide +kernel
theorem dX5_isNamed_11 : decode cX5_isNamed 11 = .ok (.if_icmp .ge 25, 3) := by decide +kernel
theorem dX5_isNamed_36 : decode cX5_isNamed 36 = .ok (.iconst 0, 1) := by decide +kernel
theorem dX5_isNamed_37 : decode cX5_isNamed 37 = .ok (.ireturn, 1) := by decide +kernel
theorem dX5_isNamed_14 : decode cX5_isNamed 14 = .ok (.aload_n 0, 1) := by decide +kernel
theorem dX5_isNamed_15 : decode cX5_isNamed 15 = .ok (.getfield 15, 3) := by decide +kernel
theorem dX5_isNamed_18 : decode cX5_isNamed 18 = .ok (.iload_n 1, 1) := by decide +kernel
theorem dX5_isNamed_19 : decode cX5_isNamed 19 = .ok (.aaload, 1) := by decide +kernel
theorem dX5_isNamed_20 : decode cX5_isNamed 20 = .ok (.iload 4, 2) := by decide +kernel
theorem dX5_isNamed_22 : decode cX5_isNamed 22 = .ok (.laload, 1) := by decide +kernel
theorem dX5_isNamed_23 : decode cX5_isNamed 23 = .ok (.lload_n 2, 1) := by decide +kernel
theorem dX5_isNamed_24 : decode cX5_isNamed 24 = .ok (.lcmp, 1) := by decide +kernel
theorem dX5_isNamed_25 : decode cX5_isNamed 25 = .ok (.ifCond .ne 5, 3) := by decide +kernel
theorem dX5_isNamed_30 : decode cX5_isNamed 30 = .ok (.iinc 4 1, 3) := by decide +kernel
theorem dX5_isNamed_33 : decode cX5_isNamed 33 = .ok (.goto (-30), 3) := by decide +kernel
theorem dX5_isNamed_28 : decode cX5_isNamed 28 = .ok (.iconst 1, 1) := by decide +kernel
theorem dX5_isNamed_29 : decode cX5_isNamed 29 = .ok (.ireturn, 1) := by decide +kernel
theorem dX5_clear_0 : decode cX5_clear 0 = .ok (.iconst 0, 1) := by decide +kernel
theorem dX5_clear_1 : decode cX5_clear 1 = .ok (.istore_n 1, 1) := by decide +kernel
theorem dX5_clear_2 : decode cX5_clear 2 = .ok (.iload_n 1, 1) := by decide +kernel
theorem dX5_clear_3 : decode cX5_clear 3 = .ok (.iconst 5, 1) := by decide +kernel
theorem dX5_clear_4 : decode cX5_clear 4 = .ok (.if_icmp .ge 16, 3) := by decide +kernel
theorem dX5_clear_7 : decode cX5_clear 7 = .ok (.aload_n 0, 1) := by decide +kernel
theorem dX5_clear_8 : decode cX5_clear 8 = .ok (.getfield 9, 3) := by decide +kernel
theorem dX5_clear_11 : decode cX5_clear 11 = .ok (.iload_n 1, 1) := by decide +kernel
theorem dX5_clear_12 : decode cX5_clear 12 = .ok (.iconst 0, 1) := by decide +kernel
theorem dX5_clear_13 : decode cX5_clear 13 = .ok (.iastore, 1) := by decide +kernel
theorem dX5_clear_14 : decode cX5_clear 14 = .ok (.iinc 1 1, 3) := by decide +kernel
theorem dX5_clear_17 : decode cX5_clear 17 = .ok (.goto (-15), 3) := by decide +kernel
theorem dX5_clear_20 : decode cX5_clear 20 = .ok (.aload_n 0, 1) := by decide +kernel
theorem dX5_clear_21 : decode cX5_clear 21 = .ok (.getfield 53, 3) := by decide +kernel
theorem dX5_clear_24 : decode cX5_clear 24 = .ok (.invokevirtual 64, 3) := by decide +kernel
theorem dX5_clear_27 : decode cX5_clear 27 = .ok (.aload_n 0, 1) := by decide +kernel
theorem dX5_clear_28 : decode cX5_clear 28 = .ok (.getfield 57, 3) := by decide +kernel
theorem dX5_clear_31 : decode cX5_clear 31 = .ok (.iconst 0, 1) := by decide +kernel
theorem dX5_clear_32 : decode cX5_clear 32 = .ok (.bipush 100, 2) := by decide +kernel
theorem dX5_clear_34 : decode cX5_clear 34 = .ok (.iastore, 1) := by decide +kernel
theorem dX5_clear_35 : decode cX5_clear 35 = .ok (.aload_n 0, 1) := by decide +kernel
theorem dX5_clear_36 : decode cX5_clear 36 = .ok (.getfield 57, 3) := by decide +kernel
theorem dX5_clear_39 : decode cX5_clear 39 = .ok (.iconst 1, 1) := by decide +kernel
theorem dX5_clear_40 : decode cX5_clear 40 = .ok (.iconst 0, 1) := by decide +kernel
theorem dX5_clear_41 : decode cX5_clear 41 = .ok (.iastore, 1) := by decide +kernel
theorem dX5_clear_42 : decode cX5_clear 42 = .ok (.aload_n 0, 1) := by decide +kernel
theorem dX5_clear_43 : decode cX5_clear 43 = .ok (.getfield 60, 3) := by decide +kernel
theorem dX5_clear_46 : decode cX5_clear 46 = .ok (.iconst 0, 1) := by decide +kernel
theorem dX5_clear_47 : decode cX5_clear 47 = .ok (.iconst 0, 1) := by decide +kernel
theorem dX5_clear_48 : decode cX5_clear 48 = .ok (.bastore, 1) := by decide +kernel
theorem dX5_clear_49 : decode cX5_clear 49 = .ok (.aload_n 0, 1) := by decide +kernel
theorem dX5_clear_50 : decode cX5_clear 50 = .ok (.getfield 60, 3) := by decide +kernel
theorem dX5_clear_53 : decode cX5_clear 53 = .ok (.iconst 1, 1) := by decide +kernel
theorem dX5_clear_54 : decode cX5_clear 54 = .ok (.iconst 0, 1) := by decide +kernel
theorem dX5_clear_55 : decode cX5_clear 55 = .ok (.bastore, 1) := by decide +kernel
theorem dX5_clear_56 : decode cX5_clear 56 = .ok (.return_, 1) := by decide +kernel
theorem dX2_tell_0 : decode cX2_tell 0 = .ok (.aload_n 0, 1) := by decide +kernel
theorem dX2_tell_1 : decode cX2_tell 1 = .ok (.getfield 32, 3) := by decide +kernel
theorem dX2_tell_4 : decode cX2_tell 4 = .ok (.bipush 39, 2) := by decide +kernel
theorem dX2_tell_6 : decode cX2_tell 6 = .ok (.invokestatic 36, 3) := by decide +kernel
theorem dX2_tell_9 : decode cX2_tell 9 = .ok (.istore 5, 2) := by decide +kernel
theorem dX2_tell_11 : decode cX2_tell 11 = .ok (.aload_n 0, 1) := by decide +kernel
theorem dX2_tell_12 : decode cX2_tell 12 = .ok (.getfield 9, 3) := by decide +kernel
theorem dX2_tell_15 : decode cX2_tell 15 = .ok (.iload 5, 2) := by decide +kernel
theorem dX2_tell_17 : decode cX2_tell 17 = .ok (.iload_n 1, 1) := by decide +kernel
theorem dX2_tell_18 : decode cX2_tell 18 = .ok (.iastore, 1) := by decide +kernel
theorem dX2_tell_19 : decode cX2_tell 19 = .ok (.aload_n 0, 1) := by decide +kernel
theorem dX2_tell_20 : decode cX2_tell 20 = .ok (.getfield 13, 3) := by decide +kernel
theorem dX2_tell_23 : decode cX2_tell 23 = .ok (.iload 5, 2) := by decide +kernel
theorem dX2_tell_25 : decode cX2_tell 25 = .ok (.iload_n 2, 1) := by decide +kernel
theorem dX2_tell_26 : decode cX2_tell 26 = .ok (.iastore, 1) := by decide +kernel
theorem dX2_tell_27 : decode cX2_tell 27 = .ok (.aload_n 0, 1) := by decide +kernel
theorem dX2_tell_28 : decode cX2_tell 28 = .ok (.getfield 16, 3) := by decide +kernel
theorem dX2_tell_31 : decode cX2_tell 31 = .ok (.iload 5, 2) := by decide +kernel
theorem dX2_tell_33 : decode cX2_tell 33 = .ok (.iload_n 3, 1) := by decide +kernel
theorem dX2_tell_34 : decode cX2_tell 34 = .ok (.iastore, 1) := by decide +kernel
theorem dX2_tell_35 : decode cX2_tell 35 = .ok (.aload_n 0, 1) := by decide +kernel
theorem dX2_tell_36 : decode cX2_tell 36 = .ok (.getfield 19, 3) := by decide +kernel
theorem dX2_tell_39 : decode cX2_tell 39 = .ok (.iload 5, 2) := by decide +kernel
theorem dX2_tell_41 : decode cX2_tell 41 = .ok (.iconst 0, 1) := by decide +kernel
theorem dX2_tell_42 : decode cX2_tell 42 = .ok (.iastore, 1) := by decide +kernel
theorem dX2_tell_43 : decode cX2_tell 43 = .ok (.aload_n 0, 1) := by decide +kernel
theorem dX2_tell_44 : decode cX2_tell 44 = .ok (.getfield 29, 3) := by decide +kernel
theorem dX2_tell_47 : decode cX2_tell 47 = .ok (.iload 5, 2) := by decide +kernel
theorem dX2_tell_49 : decode cX2_tell 49 = .ok (.iload 4, 2) := by decide +kernel
theorem dX2_tell_51 : decode cX2_tell 51 = .ok (.iastore, 1) := by decide +kernel
theorem dX2_tell_52 : decode cX2_tell 52 = .ok (.aload_n 0, 1) := by decide +kernel
theorem dX2_tell_53 : decode cX2_tell 53 = .ok (.getfield 22, 3) := by decide +kernel
theorem dX2_tell_56 : decode cX2_tell 56 = .ok (.iload 5, 2) := by decide +kernel
theorem dX2_tell_58 : decode cX2_tell 58 = .ok (.iconst 0, 1) := by decide +kernel
theorem dX2_tell_59 : decode cX2_tell 59 = .ok (.bastore, 1) := by decide +kernel
theorem dX2_tell_60 : decode cX2_tell 60 = .ok (.aload_n 0, 1) := by decide +kernel
theorem dX2_tell_61 : decode cX2_tell 61 = .ok (.iload 5, 2) := by decide +kernel
theorem dX2_tell_63 : decode cX2_tell 63 = .ok (.iconst 1, 1) := by decide +kernel
theorem dX2_tell_64 : decode cX2_tell 64 = .ok (.iadd, 1) := by decide +kernel
theorem dX2_tell_65 : decode cX2_tell 65 = .ok (.putfield 32, 3) := by decide +kernel
theorem dX2_tell_68 : decode cX2_tell 68 = .ok (.iload 5, 2) := by decide +kernel
theorem dX2_tell_70 : decode cX2_tell 70 = .ok (.ireturn, 1) := by decide +kernel
theorem dX2_counts_0 : decode cX2_counts 0 = .ok (.aload_n 0, 1) := by decide +kernel
theorem dX2_counts_1 : decode cX2_counts 1 = .ok (.getfield 29, 3) := by decide +kernel
theorem dX2_counts_4 : decode cX2_counts 4 = .ok (.iload_n 1, 1) := by decide +kernel
theorem dX2_counts_5 : decode cX2_counts 5 = .ok (.iaload, 1) := by decide +kernel
theorem dX2_counts_6 : decode cX2_counts 6 = .ok (.iload_n 2, 1) := by decide +kernel
theorem dX2_counts_7 : decode cX2_counts 7 = .ok (.if_icmp .gt 26, 3) := by decide +kernel
theorem dX2_counts_33 : decode cX2_counts 33 = .ok (.iconst 0, 1) := by decide +kernel
theorem dX2_counts_34 : decode cX2_counts 34 = .ok (.ireturn, 1) := by decide +kernel
theorem dX2_counts_10 : decode cX2_counts 10 = .ok (.aload_n 0, 1) := by decide +kernel
theorem dX2_counts_11 : decode cX2_counts 11 = .ok (.getfield 22, 3) := by decide +kernel
theorem dX2_counts_14 : decode cX2_counts 14 = .ok (.iload_n 1, 1) := by decide +kernel
theorem dX2_counts_15 : decode cX2_counts 15 = .ok (.baload, 1) := by decide +kernel
theorem dX2_counts_16 : decode cX2_counts 16 = .ok (.ifCond .eq 13, 3) := by decide +kernel
theorem dX2_counts_29 : decode cX2_counts 29 = .ok (.iconst 1, 1) := by decide +kernel
theorem dX2_counts_30 : decode cX2_counts 30 = .ok (.goto 4, 3) := by decide +kernel
theorem dX2_counts_19 : decode cX2_counts 19 = .ok (.aload_n 0, 1) := by decide +kernel
theorem dX2_counts_20 : decode cX2_counts 20 = .ok (.getfield 26, 3) := by decide +kernel
theorem dX2_counts_23 : decode cX2_counts 23 = .ok (.iload_n 1, 1) := by decide +kernel
theorem dX2_counts_24 : decode cX2_counts 24 = .ok (.iaload, 1) := by decide +kernel
theorem dX2_counts_25 : decode cX2_counts 25 = .ok (.iload_n 2, 1) := by decide +kernel
theorem dX2_counts_26 : decode cX2_counts 26 = .ok (.if_icmp .le 7, 3) := by decide +kernel
theorem dX7_takeWalk_0 : decode cX7_takeWalk 0 = .ok (.aload_n 0, 1) := by decide +kernel
theorem dX7_takeWalk_1 : decode cX7_takeWalk 1 = .ok (.aload_n 1, 1) := by decide +kernel
theorem dX7_takeWalk_2 : decode cX7_takeWalk 2 = .ok (.getfield 37, 3) := by decide +kernel
theorem dX7_takeWalk_5 : decode cX7_takeWalk 5 = .ok (.iload_n 2, 1) := by decide +kernel
theorem dX7_takeWalk_6 : decode cX7_takeWalk 6 = .ok (.iaload, 1) := by decide +kernel
theorem dX7_takeWalk_7 : decode cX7_takeWalk 7 = .ok (.putfield 31, 3) := by decide +kernel
theorem dX7_takeWalk_10 : decode cX7_takeWalk 10 = .ok (.iconst 0, 1) := by decide +kernel
theorem dX7_takeWalk_11 : decode cX7_takeWalk 11 = .ok (.istore_n 3, 1) := by decide +kernel
theorem dX7_takeWalk_12 : decode cX7_takeWalk 12 = .ok (.iload_n 3, 1) := by decide +kernel
theorem dX7_takeWalk_13 : decode cX7_takeWalk 13 = .ok (.aload_n 0, 1) := by decide +kernel
theorem dX7_takeWalk_14 : decode cX7_takeWalk 14 = .ok (.getfield 31, 3) := by decide +kernel
theorem dX7_takeWalk_17 : decode cX7_takeWalk 17 = .ok (.if_icmp .ge 37, 3) := by decide +kernel
theorem dX7_takeWalk_54 : decode cX7_takeWalk 54 = .ok (.return_, 1) := by decide +kernel
theorem dX7_takeWalk_20 : decode cX7_takeWalk 20 = .ok (.aload_n 0, 1) := by decide +kernel
theorem dX7_takeWalk_21 : decode cX7_takeWalk 21 = .ok (.getfield 20, 3) := by decide +kernel
theorem dX7_takeWalk_24 : decode cX7_takeWalk 24 = .ok (.iload_n 3, 1) := by decide +kernel
theorem dX7_takeWalk_25 : decode cX7_takeWalk 25 = .ok (.aload_n 1, 1) := by decide +kernel
theorem dX7_takeWalk_26 : decode cX7_takeWalk 26 = .ok (.getfield 40, 3) := by decide +kernel
theorem dX7_takeWalk_29 : decode cX7_takeWalk 29 = .ok (.iload_n 2, 1) := by decide +kernel
theorem dX7_takeWalk_30 : decode cX7_takeWalk 30 = .ok (.aaload, 1) := by decide +kernel
theorem dX7_takeWalk_33 : decode cX7_takeWalk 33 = .ok (.iastore, 1) := by decide +kernel
theorem dX7_takeWalk_34 : decode cX7_takeWalk 34 = .ok (.aload_n 0, 1) := by decide +kernel
theorem dX7_takeWalk_35 : decode cX7_takeWalk 35 = .ok (.getfield 24, 3) := by decide +kernel
theorem dX7_takeWalk_38 : decode cX7_takeWalk 38 = .ok (.iload_n 3, 1) := by decide +kernel
theorem dX7_takeWalk_39 : decode cX7_takeWalk 39 = .ok (.aload_n 1, 1) := by decide +kernel
theorem dX7_takeWalk_40 : decode cX7_takeWalk 40 = .ok (.getfield 43, 3) := by decide +kernel
theorem dX7_takeWalk_43 : decode cX7_takeWalk 43 = .ok (.iload_n 2, 1) := by decide +kernel
theorem dX7_takeWalk_44 : decode cX7_takeWalk 44 = .ok (.aaload, 1) := by decide +kernel
theorem dX7_takeWalk_47 : decode cX7_takeWalk 47 = .ok (.iastore, 1) := by decide +kernel
theorem dX7_takeWalk_48 : decode cX7_takeWalk 48 = .ok (.iinc 3 1, 3) := by decide +kernel
theorem dX7_takeWalk_51 : decode cX7_takeWalk 51 = .ok (.goto (-39), 3) := by decide +kernel
theorem dX7_takeWalk_45 : decode cX7_takeWalk 45 = .ok (.iload_n 3, 1) := by decide +kernel
theorem dX7_takeWalk_46 : decode cX7_takeWalk 46 = .ok (.iaload, 1) := by decide +kernel
theorem dX7_takeWalk_31 : decode cX7_takeWalk 31 = .ok (.iload_n 3, 1) := by decide +kernel
theorem dX7_takeWalk_32 : decode cX7_takeWalk 32 = .ok (.iaload, 1) := by decide +kernel
theorem dX7_lessen_0 : decode cX7_lessen 0 = .ok (.iconst 0, 1) := by decide +kernel
theorem dX7_lessen_1 : decode cX7_lessen 1 = .ok (.istore_n 3, 1) := by decide +kernel
theorem dX7_lessen_2 : decode cX7_lessen 2 = .ok (.iload_n 3, 1) := by decide +kernel
theorem dX7_lessen_3 : decode cX7_lessen 3 = .ok (.aload_n 0, 1) := by decide +kernel
theorem dX7_lessen_4 : decode cX7_lessen 4 = .ok (.getfield 31, 3) := by decide +kernel
theorem dX7_lessen_7 : decode cX7_lessen 7 = .ok (.if_icmp .ge 21, 3) := by decide +kernel
theorem dX7_lessen_28 : decode cX7_lessen 28 = .ok (.return_, 1) := by decide +kernel
theorem dX7_lessen_10 : decode cX7_lessen 10 = .ok (.aload_n 1, 1) := by decide +kernel
theorem dX7_lessen_11 : decode cX7_lessen 11 = .ok (.iload_n 3, 1) := by decide +kernel
theorem dX7_lessen_12 : decode cX7_lessen 12 = .ok (.iconst 0, 1) := by decide +kernel
theorem dX7_lessen_13 : decode cX7_lessen 13 = .ok (.aload_n 1, 1) := by decide +kernel
theorem dX7_lessen_14 : decode cX7_lessen 14 = .ok (.iload_n 3, 1) := by decide +kernel
theorem dX7_lessen_15 : decode cX7_lessen 15 = .ok (.iaload, 1) := by decide +kernel
theorem dX7_lessen_16 : decode cX7_lessen 16 = .ok (.iload_n 2, 1) := by decide +kernel
theorem dX7_lessen_17 : decode cX7_lessen 17 = .ok (.isub, 1) := by decide +kernel
theorem dX7_lessen_18 : decode cX7_lessen 18 = .ok (.invokestatic 45, 3) := by decide +kernel
theorem dX7_lessen_21 : decode cX7_lessen 21 = .ok (.iastore, 1) := by decide +kernel
theorem dX7_lessen_22 : decode cX7_lessen 22 = .ok (.iinc 3 1, 3) := by decide +kernel
theorem dX7_lessen_25 : decode cX7_lessen 25 = .ok (.goto (-23), 3) := by decide +kernel
theorem dX7_greatest_0 : decode cX7_greatest 0 = .ok (.iconst 0, 1) := by decide +kernel
theorem dX7_greatest_1 : decode cX7_greatest 1 = .ok (.istore_n 2, 1) := by decide +kernel
theorem dX7_greatest_2 : decode cX7_greatest 2 = .ok (.iconst 0, 1) := by decide +kernel
theorem dX7_greatest_3 : decode cX7_greatest 3 = .ok (.istore_n 3, 1) := by decide +kernel
theorem dX7_greatest_4 : decode cX7_greatest 4 = .ok (.iload_n 3, 1) := by decide +kernel
theorem dX7_greatest_5 : decode cX7_greatest 5 = .ok (.aload_n 0, 1) := by decide +kernel
theorem dX7_greatest_6 : decode cX7_greatest 6 = .ok (.getfield 31, 3) := by decide +kernel
theorem dX7_greatest_9 : decode cX7_greatest 9 = .ok (.if_icmp .ge 17, 3) := by decide +kernel
theorem dX7_greatest_26 : decode cX7_greatest 26 = .ok (.iload_n 2, 1) := by decide +kernel
theorem dX7_greatest_27 : decode cX7_greatest 27 = .ok (.ireturn, 1) := by decide +kernel
theorem dX7_greatest_12 : decode cX7_greatest 12 = .ok (.iload_n 2, 1) := by decide +kernel
theorem dX7_greatest_13 : decode cX7_greatest 13 = .ok (.aload_n 1, 1) := by decide +kernel
theorem dX7_greatest_14 : decode cX7_greatest 14 = .ok (.iload_n 3, 1) := by decide +kernel
theorem dX7_greatest_15 : decode cX7_greatest 15 = .ok (.iaload, 1) := by decide +kernel
theorem dX7_greatest_16 : decode cX7_greatest 16 = .ok (.invokestatic 45, 3) := by decide +kernel
theorem dX7_greatest_19 : decode cX7_greatest 19 = .ok (.istore_n 2, 1) := by decide +kernel
theorem dX7_greatest_20 : decode cX7_greatest 20 = .ok (.iinc 3 1, 3) := by decide +kernel
theorem dX7_greatest_23 : decode cX7_greatest 23 = .ok (.goto (-19), 3) := by decide +kernel
theorem dX7_begin_0 : decode cX7_begin 0 = .ok (.aload_n 0, 1) := by decide +kernel
theorem dX7_begin_1 : decode cX7_begin 1 = .ok (.getfield 12, 3) := by decide +kernel
theorem dX7_begin_4 : decode cX7_begin 4 = .ok (.aload_n 1, 1) := by decide +kernel
theorem dX7_begin_5 : decode cX7_begin 5 = .ok (.getfield 51, 3) := by decide +kernel
theorem dX7_begin_8 : decode cX7_begin 8 = .ok (.iconst 0, 1) := by decide +kernel
theorem dX7_begin_9 : decode cX7_begin 9 = .ok (.iaload, 1) := by decide +kernel
theorem dX7_begin_10 : decode cX7_begin 10 = .ok (.invokevirtual 54, 3) := by decide +kernel
theorem dX7_begin_13 : decode cX7_begin 13 = .ok (.aload_n 0, 1) := by decide +kernel
theorem dX7_begin_14 : decode cX7_begin 14 = .ok (.iconst 0, 1) := by decide +kernel
theorem dX7_begin_15 : decode cX7_begin 15 = .ok (.putfield 34, 3) := by decide +kernel
theorem dX7_begin_18 : decode cX7_begin 18 = .ok (.return_, 1) := by decide +kernel
theorem dX7_advance_0 : decode cX7_advance 0 = .ok (.aload_n 0, 1) := by decide +kernel
theorem dX7_advance_1 : decode cX7_advance 1 = .ok (.getfield 34, 3) := by decide +kernel
theorem dX7_advance_4 : decode cX7_advance 4 = .ok (.istore_n 2, 1) := by decide +kernel
theorem dX7_advance_5 : decode cX7_advance 5 = .ok (.aload_n 0, 1) := by decide +kernel
theorem dX7_advance_6 : decode cX7_advance 6 = .ok (.aload_n 0, 1) := by decide +kernel
theorem dX7_advance_7 : decode cX7_advance 7 = .ok (.getfield 34, 3) := by decide +kernel
theorem dX7_advance_10 : decode cX7_advance 10 = .ok (.iconst 1, 1) := by decide +kernel
theorem dX7_advance_11 : decode cX7_advance 11 = .ok (.iadd, 1) := by decide +kernel
theorem dX7_advance_12 : decode cX7_advance 12 = .ok (.aload_n 0, 1) := by decide +kernel
theorem dX7_advance_13 : decode cX7_advance 13 = .ok (.getfield 31, 3) := by decide +kernel
theorem dX7_advance_16 : decode cX7_advance 16 = .ok (.if_icmp .ge 12, 3) := by decide +kernel
theorem dX7_advance_28 : decode cX7_advance 28 = .ok (.iconst 0, 1) := by decide +kernel
theorem dX7_advance_29 : decode cX7_advance 29 = .ok (.putfield 34, 3) := by decide +kernel
theorem dX7_advance_32 : decode cX7_advance 32 = .ok (.aload_n 0, 1) := by decide +kernel
theorem dX7_advance_33 : decode cX7_advance 33 = .ok (.getfield 12, 3) := by decide +kernel
theorem dX7_advance_36 : decode cX7_advance 36 = .ok (.aload_n 1, 1) := by decide +kernel
theorem dX7_advance_37 : decode cX7_advance 37 = .ok (.getfield 58, 3) := by decide +kernel
theorem dX7_advance_40 : decode cX7_advance 40 = .ok (.aload_n 0, 1) := by decide +kernel
theorem dX7_advance_41 : decode cX7_advance 41 = .ok (.getfield 27, 3) := by decide +kernel
theorem dX7_advance_44 : decode cX7_advance 44 = .ok (.aload_n 0, 1) := by decide +kernel
theorem dX7_advance_45 : decode cX7_advance 45 = .ok (.getfield 20, 3) := by decide +kernel
theorem dX7_advance_48 : decode cX7_advance 48 = .ok (.iload_n 2, 1) := by decide +kernel
theorem dX7_advance_49 : decode cX7_advance 49 = .ok (.iaload, 1) := by decide +kernel
theorem dX7_advance_50 : decode cX7_advance 50 = .ok (.aload_n 0, 1) := by decide +kernel
theorem dX7_advance_51 : decode cX7_advance 51 = .ok (.getfield 24, 3) := by decide +kernel
theorem dX7_advance_54 : decode cX7_advance 54 = .ok (.iload_n 2, 1) := by decide +kernel
theorem dX7_advance_55 : decode cX7_advance 55 = .ok (.iaload, 1) := by decide +kernel
theorem dX7_advance_56 : decode cX7_advance 56 = .ok (.invokevirtual 62, 3) := by decide +kernel
theorem dX7_advance_59 : decode cX7_advance 59 = .ok (.ireturn, 1) := by decide +kernel
theorem dX7_advance_19 : decode cX7_advance 19 = .ok (.aload_n 0, 1) := by decide +kernel
theorem dX7_advance_20 : decode cX7_advance 20 = .ok (.getfield 34, 3) := by decide +kernel
theorem dX7_advance_23 : decode cX7_advance 23 = .ok (.iconst 1, 1) := by decide +kernel
theorem dX7_advance_24 : decode cX7_advance 24 = .ok (.iadd, 1) := by decide +kernel
theorem dX7_advance_25 : decode cX7_advance 25 = .ok (.goto 4, 3) := by decide +kernel
theorem dX7_stepsHeld_0 : decode cX7_stepsHeld 0 = .ok (.aload_n 0, 1) := by decide +kernel
theorem dX7_stepsHeld_1 : decode cX7_stepsHeld 1 = .ok (.aload_n 1, 1) := by decide +kernel
theorem dX7_stepsHeld_2 : decode cX7_stepsHeld 2 = .ok (.invokevirtual 66, 3) := by decide +kernel
theorem dX7_stepsHeld_5 : decode cX7_stepsHeld 5 = .ok (.iconst 0, 1) := by decide +kernel
theorem dX7_stepsHeld_6 : decode cX7_stepsHeld 6 = .ok (.istore_n 2, 1) := by decide +kernel
theorem dX7_stepsHeld_7 : decode cX7_stepsHeld 7 = .ok (.iconst 1, 1) := by decide +kernel
theorem dX7_stepsHeld_8 : decode cX7_stepsHeld 8 = .ok (.istore_n 3, 1) := by decide +kernel
theorem dX7_stepsHeld_9 : decode cX7_stepsHeld 9 = .ok (.iload_n 3, 1) := by decide +kernel
theorem dX7_stepsHeld_10 : decode cX7_stepsHeld 10 = .ok (.sipush 2000, 3) := by decide +kernel
theorem dX7_stepsHeld_13 : decode cX7_stepsHeld 13 = .ok (.if_icmp .gt 49, 3) := by decide +kernel
theorem dX7_stepsHeld_62 : decode cX7_stepsHeld 62 = .ok (.sipush 2000, 3) := by decide +kernel
theorem dX7_stepsHeld_65 : decode cX7_stepsHeld 65 = .ok (.ireturn, 1) := by decide +kernel
theorem dX7_stepsHeld_16 : decode cX7_stepsHeld 16 = .ok (.aload_n 0, 1) := by decide +kernel
theorem dX7_stepsHeld_17 : decode cX7_stepsHeld 17 = .ok (.aload_n 1, 1) := by decide +kernel
theorem dX7_stepsHeld_18 : decode cX7_stepsHeld 18 = .ok (.invokevirtual 69, 3) := by decide +kernel
theorem dX7_stepsHeld_21 : decode cX7_stepsHeld 21 = .ok (.ifCond .ne 9, 3) := by decide +kernel
theorem dX7_stepsHeld_30 : decode cX7_stepsHeld 30 = .ok (.iconst 0, 1) := by decide +kernel
theorem dX7_stepsHeld_31 : decode cX7_stepsHeld 31 = .ok (.istore_n 2, 1) := by decide +kernel
theorem dX7_stepsHeld_32 : decode cX7_stepsHeld 32 = .ok (.aload_n 0, 1) := by decide +kernel
theorem dX7_stepsHeld_33 : decode cX7_stepsHeld 33 = .ok (.getfield 12, 3) := by decide +kernel
theorem dX7_stepsHeld_36 : decode cX7_stepsHeld 36 = .ok (.getfield 73, 3) := by decide +kernel
theorem dX7_stepsHeld_39 : decode cX7_stepsHeld 39 = .ok (.ifCond .ne 5, 3) := by decide +kernel
theorem dX7_stepsHeld_44 : decode cX7_stepsHeld 44 = .ok (.iload_n 2, 1) := by decide +kernel
theorem dX7_stepsHeld_45 : decode cX7_stepsHeld 45 = .ok (.aload_n 0, 1) := by decide +kernel
theorem dX7_stepsHeld_46 : decode cX7_stepsHeld 46 = .ok (.getfield 31, 3) := by decide +kernel
theorem dX7_stepsHeld_49 : decode cX7_stepsHeld 49 = .ok (.if_icmp .lt 7, 3) := by decide +kernel
theorem dX7_stepsHeld_56 : decode cX7_stepsHeld 56 = .ok (.iinc 3 1, 3) := by decide +kernel
theorem dX7_stepsHeld_59 : decode cX7_stepsHeld 59 = .ok (.goto (-50), 3) := by decide +kernel
theorem dX7_stepsHeld_52 : decode cX7_stepsHeld 52 = .ok (.sipush 2000, 3) := by decide +kernel
theorem dX7_stepsHeld_55 : decode cX7_stepsHeld 55 = .ok (.ireturn, 1) := by decide +kernel
theorem dX7_stepsHeld_42 : decode cX7_stepsHeld 42 = .ok (.iload_n 3, 1) := by decide +kernel
theorem dX7_stepsHeld_43 : decode cX7_stepsHeld 43 = .ok (.ireturn, 1) := by decide +kernel
theorem dX7_stepsHeld_24 : decode cX7_stepsHeld 24 = .ok (.iload_n 2, 1) := by decide +kernel
theorem dX7_stepsHeld_25 : decode cX7_stepsHeld 25 = .ok (.iconst 1, 1) := by decide +kernel
theorem dX7_stepsHeld_26 : decode cX7_stepsHeld 26 = .ok (.iadd, 1) := by decide +kernel
theorem dX7_stepsHeld_27 : decode cX7_stepsHeld 27 = .ok (.goto 4, 3) := by decide +kernel
theorem dX7_firstFeedingStep_0 : decode cX7_firstFeedingStep 0 = .ok (.aload_n 0, 1) := by decide +kernel
theorem dX7_firstFeedingStep_1 : decode cX7_firstFeedingStep 1 = .ok (.aload_n 1, 1) := by decide +kernel
theorem dX7_firstFeedingStep_2 : decode cX7_firstFeedingStep 2 = .ok (.invokevirtual 66, 3) := by decide +kernel
theorem dX7_firstFeedingStep_5 : decode cX7_firstFeedingStep 5 = .ok (.iconst (-1), 1) := by decide +kernel
theorem dX7_firstFeedingStep_6 : decode cX7_firstFeedingStep 6 = .ok (.istore_n 2, 1) := by decide +kernel
theorem dX7_firstFeedingStep_7 : decode cX7_firstFeedingStep 7 = .ok (.iconst 0, 1) := by decide +kernel
theorem dX7_firstFeedingStep_8 : decode cX7_firstFeedingStep 8 = .ok (.istore_n 3, 1) := by decide +kernel
theorem dX7_firstFeedingStep_9 : decode cX7_firstFeedingStep 9 = .ok (.iconst 1, 1) := by decide +kernel
theorem dX7_firstFeedingStep_10 : decode cX7_firstFeedingStep 10 = .ok (.istore 4, 2) := by decide +kernel
theorem dX7_firstFeedingStep_12 : decode cX7_firstFeedingStep 12 = .ok (.iload 4, 2) := by decide +kernel
theorem dX7_firstFeedingStep_14 : decode cX7_firstFeedingStep 14 = .ok (.sipush 2000, 3) := by decide +kernel
theorem dX7_firstFeedingStep_17 : decode cX7_firstFeedingStep 17 = .ok (.if_icmp .gt 55, 3) := by decide +kernel
theorem dX7_firstFeedingStep_72 : decode cX7_firstFeedingStep 72 = .ok (.iconst (-1), 1) := by decide +kernel
theorem dX7_firstFeedingStep_73 : decode cX7_firstFeedingStep 73 = .ok (.ireturn, 1) := by decide +kernel
theorem dX7_firstFeedingStep_20 : decode cX7_firstFeedingStep 20 = .ok (.aload_n 0, 1) := by decide +kernel
theorem dX7_firstFeedingStep_21 : decode cX7_firstFeedingStep 21 = .ok (.aload_n 1, 1) := by decide +kernel
theorem dX7_firstFeedingStep_22 : decode cX7_firstFeedingStep 22 = .ok (.invokevirtual 69, 3) := by decide +kernel
theorem dX7_firstFeedingStep_25 : decode cX7_firstFeedingStep 25 = .ok (.istore 5, 2) := by decide +kernel
theorem dX7_firstFeedingStep_27 : decode cX7_firstFeedingStep 27 = .ok (.iload 5, 2) := by decide +kernel
theorem dX7_firstFeedingStep_29 : decode cX7_firstFeedingStep 29 = .ok (.ifCond .eq 9, 3) := by decide +kernel
theorem dX7_firstFeedingStep_38 : decode cX7_firstFeedingStep 38 = .ok (.iconst (-1), 1) := by decide +kernel
theorem dX7_firstFeedingStep_39 : decode cX7_firstFeedingStep 39 = .ok (.istore_n 2, 1) := by decide +kernel
theorem dX7_firstFeedingStep_40 : decode cX7_firstFeedingStep 40 = .ok (.goto 11, 3) := by decide +kernel
theorem dX7_firstFeedingStep_51 : decode cX7_firstFeedingStep 51 = .ok (.aload_n 0, 1) := by decide +kernel
theorem dX7_firstFeedingStep_52 : decode cX7_firstFeedingStep 52 = .ok (.getfield 12, 3) := by decide +kernel
theorem dX7_firstFeedingStep_55 : decode cX7_firstFeedingStep 55 = .ok (.getfield 73, 3) := by decide +kernel
theorem dX7_firstFeedingStep_58 : decode cX7_firstFeedingStep 58 = .ok (.ifCond .ne 5, 3) := by decide +kernel
theorem dX7_firstFeedingStep_63 : decode cX7_firstFeedingStep 63 = .ok (.iload 5, 2) := by decide +kernel
theorem dX7_firstFeedingStep_65 : decode cX7_firstFeedingStep 65 = .ok (.istore_n 3, 1) := by decide +kernel
theorem dX7_firstFeedingStep_66 : decode cX7_firstFeedingStep 66 = .ok (.iinc 4 1, 3) := by decide +kernel
theorem dX7_firstFeedingStep_69 : decode cX7_firstFeedingStep 69 = .ok (.goto (-57), 3) := by decide +kernel
theorem dX7_firstFeedingStep_61 : decode cX7_firstFeedingStep 61 = .ok (.iload_n 2, 1) := by decide +kernel
theorem dX7_firstFeedingStep_62 : decode cX7_firstFeedingStep 62 = .ok (.ireturn, 1) := by decide +kernel
theorem dX7_firstFeedingStep_32 : decode cX7_firstFeedingStep 32 = .ok (.iload 5, 2) := by decide +kernel
theorem dX7_firstFeedingStep_34 : decode cX7_firstFeedingStep 34 = .ok (.iload_n 3, 1) := by decide +kernel
theorem dX7_firstFeedingStep_35 : decode cX7_firstFeedingStep 35 = .ok (.if_icmp .ge 8, 3) := by decide +kernel
theorem dX7_firstFeedingStep_43 : decode cX7_firstFeedingStep 43 = .ok (.iload_n 2, 1) := by decide +kernel
theorem dX7_firstFeedingStep_44 : decode cX7_firstFeedingStep 44 = .ok (.iconst (-1), 1) := by decide +kernel
theorem dX7_firstFeedingStep_45 : decode cX7_firstFeedingStep 45 = .ok (.if_icmp .ne 6, 3) := by decide +kernel
theorem dX7_firstFeedingStep_48 : decode cX7_firstFeedingStep 48 = .ok (.iload 4, 2) := by decide +kernel
theorem dX7_firstFeedingStep_50 : decode cX7_firstFeedingStep 50 = .ok (.istore_n 2, 1) := by decide +kernel
theorem dX7_opensBy_0 : decode cX7_opensBy 0 = .ok (.aload_n 0, 1) := by decide +kernel
theorem dX7_opensBy_1 : decode cX7_opensBy 1 = .ok (.aload_n 1, 1) := by decide +kernel
theorem dX7_opensBy_2 : decode cX7_opensBy 2 = .ok (.invokevirtual 66, 3) := by decide +kernel
theorem dX7_opensBy_5 : decode cX7_opensBy 5 = .ok (.iconst 0, 1) := by decide +kernel
theorem dX7_opensBy_6 : decode cX7_opensBy 6 = .ok (.istore_n 3, 1) := by decide +kernel
theorem dX7_opensBy_7 : decode cX7_opensBy 7 = .ok (.iload_n 3, 1) := by decide +kernel
theorem dX7_opensBy_8 : decode cX7_opensBy 8 = .ok (.bipush 100, 2) := by decide +kernel
theorem dX7_opensBy_10 : decode cX7_opensBy 10 = .ok (.if_icmp .ge 36, 3) := by decide +kernel
theorem dX7_opensBy_46 : decode cX7_opensBy 46 = .ok (.aload_n 0, 1) := by decide +kernel
theorem dX7_opensBy_47 : decode cX7_opensBy 47 = .ok (.getfield 12, 3) := by decide +kernel
theorem dX7_opensBy_50 : decode cX7_opensBy 50 = .ok (.getfield 73, 3) := by decide +kernel
theorem dX7_opensBy_53 : decode cX7_opensBy 53 = .ok (.ifCond .ne 7, 3) := by decide +kernel
theorem dX7_opensBy_60 : decode cX7_opensBy 60 = .ok (.iconst 0, 1) := by decide +kernel
theorem dX7_opensBy_61 : decode cX7_opensBy 61 = .ok (.ireturn, 1) := by decide +kernel
theorem dX7_opensBy_56 : decode cX7_opensBy 56 = .ok (.iconst 1, 1) := by decide +kernel
theorem dX7_opensBy_57 : decode cX7_opensBy 57 = .ok (.goto 4, 3) := by decide +kernel
theorem dX7_opensBy_13 : decode cX7_opensBy 13 = .ok (.aload_n 0, 1) := by decide +kernel
theorem dX7_opensBy_14 : decode cX7_opensBy 14 = .ok (.getfield 12, 3) := by decide +kernel
theorem dX7_opensBy_17 : decode cX7_opensBy 17 = .ok (.getfield 73, 3) := by decide +kernel
theorem dX7_opensBy_20 : decode cX7_opensBy 20 = .ok (.ifCond .le 26, 3) := by decide +kernel
theorem dX7_opensBy_23 : decode cX7_opensBy 23 = .ok (.aload_n 0, 1) := by decide +kernel
theorem dX7_opensBy_24 : decode cX7_opensBy 24 = .ok (.getfield 12, 3) := by decide +kernel
theorem dX7_opensBy_27 : decode cX7_opensBy 27 = .ok (.aload_n 1, 1) := by decide +kernel
theorem dX7_opensBy_28 : decode cX7_opensBy 28 = .ok (.getfield 58, 3) := by decide +kernel
theorem dX7_opensBy_31 : decode cX7_opensBy 31 = .ok (.iload_n 2, 1) := by decide +kernel
theorem dX7_opensBy_32 : decode cX7_opensBy 32 = .ok (.invokevirtual 80, 3) := by decide +kernel
theorem dX7_opensBy_35 : decode cX7_opensBy 35 = .ok (.ifCond .ne 5, 3) := by decide +kernel
theorem dX7_opensBy_40 : decode cX7_opensBy 40 = .ok (.iinc 3 1, 3) := by decide +kernel
theorem dX7_opensBy_43 : decode cX7_opensBy 43 = .ok (.goto (-36), 3) := by decide +kernel
theorem dX7_opensBy_38 : decode cX7_opensBy 38 = .ok (.iconst 0, 1) := by decide +kernel
theorem dX7_opensBy_39 : decode cX7_opensBy 39 = .ok (.ireturn, 1) := by decide +kernel
theorem dX7_leastOpeningPull_0 : decode cX7_leastOpeningPull 0 = .ok (.iconst 0, 1) := by decide +kernel
theorem dX7_leastOpeningPull_1 : decode cX7_leastOpeningPull 1 = .ok (.istore_n 2, 1) := by decide +kernel
theorem dX7_leastOpeningPull_2 : decode cX7_leastOpeningPull 2 = .ok (.iload_n 2, 1) := by decide +kernel
theorem dX7_leastOpeningPull_3 : decode cX7_leastOpeningPull 3 = .ok (.sipush 990, 3) := by decide +kernel
theorem dX7_leastOpeningPull_6 : decode cX7_leastOpeningPull 6 = .ok (.if_icmp .gt 20, 3) := by decide +kernel
theorem dX7_leastOpeningPull_26 : decode cX7_leastOpeningPull 26 = .ok (.iconst (-1), 1) := by decide +kernel
theorem dX7_leastOpeningPull_27 : decode cX7_leastOpeningPull 27 = .ok (.ireturn, 1) := by decide +kernel
theorem dX7_leastOpeningPull_9 : decode cX7_leastOpeningPull 9 = .ok (.aload_n 0, 1) := by decide +kernel
theorem dX7_leastOpeningPull_10 : decode cX7_leastOpeningPull 10 = .ok (.aload_n 1, 1) := by decide +kernel
theorem dX7_leastOpeningPull_11 : decode cX7_leastOpeningPull 11 = .ok (.iload_n 2, 1) := by decide +kernel
theorem dX7_leastOpeningPull_12 : decode cX7_leastOpeningPull 12 = .ok (.invokevirtual 76, 3) := by decide +kernel
theorem dX7_leastOpeningPull_15 : decode cX7_leastOpeningPull 15 = .ok (.ifCond .eq 5, 3) := by decide +kernel
theorem dX7_leastOpeningPull_18 : decode cX7_leastOpeningPull 18 = .ok (.iload_n 2, 1) := by decide +kernel
theorem dX7_leastOpeningPull_19 : decode cX7_leastOpeningPull 19 = .ok (.ireturn, 1) := by decide +kernel
theorem dX7_leastOpeningPull_20 : decode cX7_leastOpeningPull 20 = .ok (.iinc 2 10, 3) := by decide +kernel
theorem dX7_leastOpeningPull_23 : decode cX7_leastOpeningPull 23 = .ok (.goto (-21), 3) := by decide +kernel
theorem dX7_endsBehind_0 : decode cX7_endsBehind 0 = .ok (.aload_n 0, 1) := by decide +kernel
theorem dX7_endsBehind_1 : decode cX7_endsBehind 1 = .ok (.aload_n 1, 1) := by decide +kernel
theorem dX7_endsBehind_2 : decode cX7_endsBehind 2 = .ok (.invokevirtual 66, 3) := by decide +kernel
theorem dX7_endsBehind_5 : decode cX7_endsBehind 5 = .ok (.iconst 0, 1) := by decide +kernel
theorem dX7_endsBehind_6 : decode cX7_endsBehind 6 = .ok (.istore_n 3, 1) := by decide +kernel
theorem dX7_endsBehind_7 : decode cX7_endsBehind 7 = .ok (.iload_n 3, 1) := by decide +kernel
theorem dX7_endsBehind_8 : decode cX7_endsBehind 8 = .ok (.iload_n 2, 1) := by decide +kernel
theorem dX7_endsBehind_9 : decode cX7_endsBehind 9 = .ok (.if_icmp .ge 25, 3) := by decide +kernel
theorem dX7_endsBehind_34 : decode cX7_endsBehind 34 = .ok (.aload_n 0, 1) := by decide +kernel
theorem dX7_endsBehind_35 : decode cX7_endsBehind 35 = .ok (.getfield 12, 3) := by decide +kernel
theorem dX7_endsBehind_38 : decode cX7_endsBehind 38 = .ok (.getfield 84, 3) := by decide +kernel
theorem dX7_endsBehind_41 : decode cX7_endsBehind 41 = .ok (.iconst 0, 1) := by decide +kernel
theorem dX7_endsBehind_42 : decode cX7_endsBehind 42 = .ok (.iaload, 1) := by decide +kernel
theorem dX7_endsBehind_43 : decode cX7_endsBehind 43 = .ok (.aload_n 0, 1) := by decide +kernel
theorem dX7_endsBehind_44 : decode cX7_endsBehind 44 = .ok (.getfield 12, 3) := by decide +kernel
theorem dX7_endsBehind_47 : decode cX7_endsBehind 47 = .ok (.getfield 84, 3) := by decide +kernel
theorem dX7_endsBehind_50 : decode cX7_endsBehind 50 = .ok (.iconst 1, 1) := by decide +kernel
theorem dX7_endsBehind_51 : decode cX7_endsBehind 51 = .ok (.iaload, 1) := by decide +kernel
theorem dX7_endsBehind_52 : decode cX7_endsBehind 52 = .ok (.iadd, 1) := by decide +kernel
theorem dX7_endsBehind_53 : decode cX7_endsBehind 53 = .ok (.ireturn, 1) := by decide +kernel
theorem dX7_endsBehind_12 : decode cX7_endsBehind 12 = .ok (.aload_n 0, 1) := by decide +kernel
theorem dX7_endsBehind_13 : decode cX7_endsBehind 13 = .ok (.getfield 12, 3) := by decide +kernel
theorem dX7_endsBehind_16 : decode cX7_endsBehind 16 = .ok (.getfield 73, 3) := by decide +kernel
theorem dX7_endsBehind_19 : decode cX7_endsBehind 19 = .ok (.ifCond .le 15, 3) := by decide +kernel
theorem dX7_endsBehind_22 : decode cX7_endsBehind 22 = .ok (.aload_n 0, 1) := by decide +kernel
theorem dX7_endsBehind_23 : decode cX7_endsBehind 23 = .ok (.aload_n 1, 1) := by decide +kernel
theorem dX7_endsBehind_24 : decode cX7_endsBehind 24 = .ok (.invokevirtual 69, 3) := by decide +kernel
theorem dX7_endsBehind_27 : decode cX7_endsBehind 27 = .ok (.pop, 1) := by decide +kernel
theorem dX7_endsBehind_28 : decode cX7_endsBehind 28 = .ok (.iinc 3 1, 3) := by decide +kernel
theorem dX7_endsBehind_31 : decode cX7_endsBehind 31 = .ok (.goto (-24), 3) := by decide +kernel
theorem dX7_firstSlippingStep_0 : decode cX7_firstSlippingStep 0 = .ok (.aload_n 0, 1) := by decide +kernel
theorem dX7_firstSlippingStep_1 : decode cX7_firstSlippingStep 1 = .ok (.aload_n 1, 1) := by decide +kernel
theorem dX7_firstSlippingStep_2 : decode cX7_firstSlippingStep 2 = .ok (.invokevirtual 66, 3) := by decide +kernel
theorem dX7_firstSlippingStep_5 : decode cX7_firstSlippingStep 5 = .ok (.iconst 1, 1) := by decide +kernel
theorem dX7_firstSlippingStep_6 : decode cX7_firstSlippingStep 6 = .ok (.istore_n 3, 1) := by decide +kernel
theorem dX7_firstSlippingStep_7 : decode cX7_firstSlippingStep 7 = .ok (.iload_n 3, 1) := by decide +kernel
theorem dX7_firstSlippingStep_8 : decode cX7_firstSlippingStep 8 = .ok (.iload_n 2, 1) := by decide +kernel
theorem dX7_firstSlippingStep_9 : decode cX7_firstSlippingStep 9 = .ok (.if_icmp .gt 19, 3) := by decide +kernel
theorem dX7_firstSlippingStep_28 : decode cX7_firstSlippingStep 28 = .ok (.iconst (-1), 1) := by decide +kernel
theorem dX7_firstSlippingStep_29 : decode cX7_firstSlippingStep 29 = .ok (.ireturn, 1) := by decide +kernel
theorem dX7_firstSlippingStep_12 : decode cX7_firstSlippingStep 12 = .ok (.aload_n 0, 1) := by decide +kernel
theorem dX7_firstSlippingStep_13 : decode cX7_firstSlippingStep 13 = .ok (.aload_n 1, 1) := by decide +kernel
theorem dX7_firstSlippingStep_14 : decode cX7_firstSlippingStep 14 = .ok (.invokevirtual 69, 3) := by decide +kernel
theorem dX7_firstSlippingStep_17 : decode cX7_firstSlippingStep 17 = .ok (.ifCond .le 5, 3) := by decide +kernel
theorem dX7_firstSlippingStep_22 : decode cX7_firstSlippingStep 22 = .ok (.iinc 3 1, 3) := by decide +kernel
theorem dX7_firstSlippingStep_25 : decode cX7_firstSlippingStep 25 = .ok (.goto (-18), 3) := by decide +kernel
theorem dX7_firstSlippingStep_20 : decode cX7_firstSlippingStep 20 = .ok (.iload_n 3, 1) := by decide +kernel
theorem dX7_firstSlippingStep_21 : decode cX7_firstSlippingStep 21 = .ok (.ireturn, 1) := by decide +kernel
