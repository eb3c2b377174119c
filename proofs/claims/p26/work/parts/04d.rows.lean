theorem dX8_within_0 : decode cX8_within 0 = .ok (.iload_n 0, 1) := by decide +kernel
theorem dX8_within_1 : decode cX8_within 1 = .ok (.iload_n 1, 1) := by decide +kernel
theorem dX8_within_2 : decode cX8_within 2 = .ok (.if_icmp .lt 12, 3) := by decide +kernel
theorem dX8_within_14 : decode cX8_within 14 = .ok (.iconst 0, 1) := by decide +kernel
theorem dX8_within_15 : decode cX8_within 15 = .ok (.ireturn, 1) := by decide +kernel
theorem dX8_within_5 : decode cX8_within 5 = .ok (.iload_n 0, 1) := by decide +kernel
theorem dX8_within_6 : decode cX8_within 6 = .ok (.iload_n 2, 1) := by decide +kernel
theorem dX8_within_7 : decode cX8_within 7 = .ok (.if_icmp .gt 7, 3) := by decide +kernel
theorem dX8_within_10 : decode cX8_within 10 = .ok (.iconst 1, 1) := by decide +kernel
theorem dX8_within_11 : decode cX8_within 11 = .ok (.goto 4, 3) := by decide +kernel
theorem dX8_canWalkIn_0 : decode cX8_canWalkIn 0 = .ok (.aload_n 0, 1) := by decide +kernel
theorem dX8_canWalkIn_1 : decode cX8_canWalkIn 1 = .ok (.getfield 60, 3) := by decide +kernel
theorem dX8_canWalkIn_4 : decode cX8_canWalkIn 4 = .ok (.iconst 1, 1) := by decide +kernel
theorem dX8_canWalkIn_5 : decode cX8_canWalkIn 5 = .ok (.iload_n 1, 1) := by decide +kernel
theorem dX8_canWalkIn_6 : decode cX8_canWalkIn 6 = .ok (.invokevirtual 104, 3) := by decide +kernel
theorem dX8_canWalkIn_9 : decode cX8_canWalkIn 9 = .ok (.ifCond .eq 19, 3) := by decide +kernel
theorem dX8_canWalkIn_12 : decode cX8_canWalkIn 12 = .ok (.aload_n 0, 1) := by decide +kernel
theorem dX8_canWalkIn_13 : decode cX8_canWalkIn 13 = .ok (.getfield 60, 3) := by decide +kernel
theorem dX8_canWalkIn_16 : decode cX8_canWalkIn 16 = .ok (.iconst 2, 1) := by decide +kernel
theorem dX8_canWalkIn_17 : decode cX8_canWalkIn 17 = .ok (.iload_n 2, 1) := by decide +kernel
theorem dX8_canWalkIn_18 : decode cX8_canWalkIn 18 = .ok (.invokevirtual 104, 3) := by decide +kernel
theorem dX8_canWalkIn_21 : decode cX8_canWalkIn 21 = .ok (.ifCond .eq 7, 3) := by decide +kernel
theorem dX8_canWalkIn_24 : decode cX8_canWalkIn 24 = .ok (.iconst 1, 1) := by decide +kernel
theorem dX8_canWalkIn_25 : decode cX8_canWalkIn 25 = .ok (.goto 4, 3) := by decide +kernel
theorem dX8_canWalkIn_29 : decode cX8_canWalkIn 29 = .ok (.ireturn, 1) := by decide +kernel
theorem dX8_canWalkIn_28 : decode cX8_canWalkIn 28 = .ok (.iconst 0, 1) := by decide +kernel
theorem dX8_canTry_0 : decode cX8_canTry 0 = .ok (.aload_n 0, 1) := by decide +kernel
theorem dX8_canTry_1 : decode cX8_canTry 1 = .ok (.getfield 60, 3) := by decide +kernel
theorem dX8_canTry_4 : decode cX8_canTry 4 = .ok (.iconst 0, 1) := by decide +kernel
theorem dX8_canTry_5 : decode cX8_canTry 5 = .ok (.iload_n 1, 1) := by decide +kernel
theorem dX8_canTry_6 : decode cX8_canTry 6 = .ok (.invokevirtual 104, 3) := by decide +kernel
theorem dX8_canTry_9 : decode cX8_canTry 9 = .ok (.ifCond .eq 16, 3) := by decide +kernel
theorem dX8_canTry_12 : decode cX8_canTry 12 = .ok (.aload_n 0, 1) := by decide +kernel
theorem dX8_canTry_13 : decode cX8_canTry 13 = .ok (.iload_n 2, 1) := by decide +kernel
theorem dX8_canTry_14 : decode cX8_canTry 14 = .ok (.iload_n 3, 1) := by decide +kernel
theorem dX8_canTry_15 : decode cX8_canTry 15 = .ok (.invokevirtual 244, 3) := by decide +kernel
theorem dX8_canTry_18 : decode cX8_canTry 18 = .ok (.ifCond .eq 7, 3) := by decide +kernel
theorem dX8_canTry_21 : decode cX8_canTry 21 = .ok (.iconst 1, 1) := by decide +kernel
theorem dX8_canTry_22 : decode cX8_canTry 22 = .ok (.goto 4, 3) := by decide +kernel
theorem dX8_canTry_26 : decode cX8_canTry 26 = .ok (.ireturn, 1) := by decide +kernel
theorem dX8_canTry_25 : decode cX8_canTry 25 = .ok (.iconst 0, 1) := by decide +kernel
theorem dX8_prepareStill_0 : decode cX8_prepareStill 0 = .ok (.aload_n 0, 1) := by decide +kernel
theorem dX8_prepareStill_1 : decode cX8_prepareStill 1 = .ok (.getfield 30, 3) := by decide +kernel
theorem dX8_prepareStill_4 : decode cX8_prepareStill 4 = .ok (.getfield 259, 3) := by decide +kernel
theorem dX8_prepareStill_7 : decode cX8_prepareStill 7 = .ok (.aload_n 0, 1) := by decide +kernel
theorem dX8_prepareStill_8 : decode cX8_prepareStill 8 = .ok (.getfield 60, 3) := by decide +kernel
theorem dX8_prepareStill_11 : decode cX8_prepareStill 11 = .ok (.getfield 108, 3) := by decide +kernel
theorem dX8_prepareStill_14 : decode cX8_prepareStill 14 = .ok (.iload_n 1, 1) := by decide +kernel
theorem dX8_prepareStill_15 : decode cX8_prepareStill 15 = .ok (.iaload, 1) := by decide +kernel
theorem dX8_prepareStill_16 : decode cX8_prepareStill 16 = .ok (.aload_n 0, 1) := by decide +kernel
theorem dX8_prepareStill_17 : decode cX8_prepareStill 17 = .ok (.getfield 60, 3) := by decide +kernel
theorem dX8_prepareStill_20 : decode cX8_prepareStill 20 = .ok (.getfield 111, 3) := by decide +kernel
theorem dX8_prepareStill_23 : decode cX8_prepareStill 23 = .ok (.iload_n 1, 1) := by decide +kernel
theorem dX8_prepareStill_24 : decode cX8_prepareStill 24 = .ok (.iaload, 1) := by decide +kernel
theorem dX8_prepareStill_25 : decode cX8_prepareStill 25 = .ok (.invokevirtual 124, 3) := by decide +kernel
theorem dX8_prepareStill_28 : decode cX8_prepareStill 28 = .ok (.aload_n 0, 1) := by decide +kernel
theorem dX8_prepareStill_29 : decode cX8_prepareStill 29 = .ok (.getfield 30, 3) := by decide +kernel
theorem dX8_prepareStill_32 : decode cX8_prepareStill 32 = .ok (.getfield 259, 3) := by decide +kernel
theorem dX8_prepareStill_35 : decode cX8_prepareStill 35 = .ok (.aload_n 0, 1) := by decide +kernel
theorem dX8_prepareStill_36 : decode cX8_prepareStill 36 = .ok (.getfield 60, 3) := by decide +kernel
theorem dX8_prepareStill_39 : decode cX8_prepareStill 39 = .ok (.getfield 128, 3) := by decide +kernel
theorem dX8_prepareStill_42 : decode cX8_prepareStill 42 = .ok (.iload_n 2, 1) := by decide +kernel
theorem dX8_prepareStill_43 : decode cX8_prepareStill 43 = .ok (.iaload, 1) := by decide +kernel
theorem dX8_prepareStill_44 : decode cX8_prepareStill 44 = .ok (.aload_n 0, 1) := by decide +kernel
theorem dX8_prepareStill_45 : decode cX8_prepareStill 45 = .ok (.getfield 60, 3) := by decide +kernel
theorem dX8_prepareStill_48 : decode cX8_prepareStill 48 = .ok (.getfield 131, 3) := by decide +kernel
theorem dX8_prepareStill_51 : decode cX8_prepareStill 51 = .ok (.iload_n 2, 1) := by decide +kernel
theorem dX8_prepareStill_52 : decode cX8_prepareStill 52 = .ok (.iaload, 1) := by decide +kernel
theorem dX8_prepareStill_53 : decode cX8_prepareStill 53 = .ok (.aload_n 0, 1) := by decide +kernel
theorem dX8_prepareStill_54 : decode cX8_prepareStill 54 = .ok (.getfield 60, 3) := by decide +kernel
theorem dX8_prepareStill_57 : decode cX8_prepareStill 57 = .ok (.getfield 134, 3) := by decide +kernel
theorem dX8_prepareStill_60 : decode cX8_prepareStill 60 = .ok (.iload_n 2, 1) := by decide +kernel
theorem dX8_prepareStill_61 : decode cX8_prepareStill 61 = .ok (.iaload, 1) := by decide +kernel
theorem dX8_prepareStill_62 : decode cX8_prepareStill 62 = .ok (.invokevirtual 137, 3) := by decide +kernel
theorem dX8_prepareStill_65 : decode cX8_prepareStill 65 = .ok (.return_, 1) := by decide +kernel
theorem dX8_prepare_0 : decode cX8_prepare 0 = .ok (.aload_n 0, 1) := by decide +kernel
theorem dX8_prepare_1 : decode cX8_prepare 1 = .ok (.iload_n 1, 1) := by decide +kernel
theorem dX8_prepare_2 : decode cX8_prepare 2 = .ok (.iload_n 2, 1) := by decide +kernel
theorem dX8_prepare_3 : decode cX8_prepare 3 = .ok (.invokevirtual 234, 3) := by decide +kernel
theorem dX8_prepare_6 : decode cX8_prepare 6 = .ok (.aload_n 0, 1) := by decide +kernel
theorem dX8_prepare_7 : decode cX8_prepare 7 = .ok (.getfield 30, 3) := by decide +kernel
theorem dX8_prepare_10 : decode cX8_prepare 10 = .ok (.aload_n 0, 1) := by decide +kernel
theorem dX8_prepare_11 : decode cX8_prepare 11 = .ok (.getfield 60, 3) := by decide +kernel
theorem dX8_prepare_14 : decode cX8_prepare 14 = .ok (.iload_n 3, 1) := by decide +kernel
theorem dX8_prepare_15 : decode cX8_prepare 15 = .ok (.invokevirtual 334, 3) := by decide +kernel
theorem dX8_prepare_18 : decode cX8_prepare 18 = .ok (.aload_n 0, 1) := by decide +kernel
theorem dX8_prepare_19 : decode cX8_prepare 19 = .ok (.getfield 30, 3) := by decide +kernel
theorem dX8_prepare_22 : decode cX8_prepare 22 = .ok (.iload 4, 2) := by decide +kernel
theorem dX8_prepare_24 : decode cX8_prepare 24 = .ok (.putfield 338, 3) := by decide +kernel
theorem dX8_prepare_27 : decode cX8_prepare 27 = .ok (.return_, 1) := by decide +kernel
theorem dX8_prepareWalk_0 : decode cX8_prepareWalk 0 = .ok (.aload_n 0, 1) := by decide +kernel
theorem dX8_prepareWalk_1 : decode cX8_prepareWalk 1 = .ok (.getfield 30, 3) := by decide +kernel
theorem dX8_prepareWalk_4 : decode cX8_prepareWalk 4 = .ok (.getfield 259, 3) := by decide +kernel
theorem dX8_prepareWalk_7 : decode cX8_prepareWalk 7 = .ok (.aload_n 0, 1) := by decide +kernel
theorem dX8_prepareWalk_8 : decode cX8_prepareWalk 8 = .ok (.getfield 60, 3) := by decide +kernel
theorem dX8_prepareWalk_11 : decode cX8_prepareWalk 11 = .ok (.getfield 128, 3) := by decide +kernel
theorem dX8_prepareWalk_14 : decode cX8_prepareWalk 14 = .ok (.iload_n 1, 1) := by decide +kernel
theorem dX8_prepareWalk_15 : decode cX8_prepareWalk 15 = .ok (.iaload, 1) := by decide +kernel
theorem dX8_prepareWalk_16 : decode cX8_prepareWalk 16 = .ok (.aload_n 0, 1) := by decide +kernel
theorem dX8_prepareWalk_17 : decode cX8_prepareWalk 17 = .ok (.getfield 60, 3) := by decide +kernel
theorem dX8_prepareWalk_20 : decode cX8_prepareWalk 20 = .ok (.getfield 131, 3) := by decide +kernel
theorem dX8_prepareWalk_23 : decode cX8_prepareWalk 23 = .ok (.iload_n 1, 1) := by decide +kernel
theorem dX8_prepareWalk_24 : decode cX8_prepareWalk 24 = .ok (.iaload, 1) := by decide +kernel
theorem dX8_prepareWalk_25 : decode cX8_prepareWalk 25 = .ok (.aload_n 0, 1) := by decide +kernel
theorem dX8_prepareWalk_26 : decode cX8_prepareWalk 26 = .ok (.getfield 60, 3) := by decide +kernel
theorem dX8_prepareWalk_29 : decode cX8_prepareWalk 29 = .ok (.getfield 134, 3) := by decide +kernel
theorem dX8_prepareWalk_32 : decode cX8_prepareWalk 32 = .ok (.iload_n 1, 1) := by decide +kernel
theorem dX8_prepareWalk_33 : decode cX8_prepareWalk 33 = .ok (.iaload, 1) := by decide +kernel
theorem dX8_prepareWalk_34 : decode cX8_prepareWalk 34 = .ok (.invokevirtual 137, 3) := by decide +kernel
theorem dX8_prepareWalk_37 : decode cX8_prepareWalk 37 = .ok (.aload_n 0, 1) := by decide +kernel
theorem dX8_prepareWalk_38 : decode cX8_prepareWalk 38 = .ok (.getfield 30, 3) := by decide +kernel
theorem dX8_prepareWalk_41 : decode cX8_prepareWalk 41 = .ok (.aload_n 0, 1) := by decide +kernel
theorem dX8_prepareWalk_42 : decode cX8_prepareWalk 42 = .ok (.getfield 60, 3) := by decide +kernel
theorem dX8_prepareWalk_45 : decode cX8_prepareWalk 45 = .ok (.iload_n 2, 1) := by decide +kernel
theorem dX8_prepareWalk_46 : decode cX8_prepareWalk 46 = .ok (.invokevirtual 334, 3) := by decide +kernel
theorem dX8_prepareWalk_49 : decode cX8_prepareWalk 49 = .ok (.aload_n 0, 1) := by decide +kernel
theorem dX8_prepareWalk_50 : decode cX8_prepareWalk 50 = .ok (.getfield 30, 3) := by decide +kernel
theorem dX8_prepareWalk_53 : decode cX8_prepareWalk 53 = .ok (.iconst 0, 1) := by decide +kernel
theorem dX8_prepareWalk_54 : decode cX8_prepareWalk 54 = .ok (.putfield 338, 3) := by decide +kernel
theorem dX8_prepareWalk_57 : decode cX8_prepareWalk 57 = .ok (.return_, 1) := by decide +kernel
theorem dX8_preparePair_0 : decode cX8_preparePair 0 = .ok (.aload_n 0, 1) := by decide +kernel
theorem dX8_preparePair_1 : decode cX8_preparePair 1 = .ok (.iload_n 1, 1) := by decide +kernel
theorem dX8_preparePair_2 : decode cX8_preparePair 2 = .ok (.iload_n 3, 1) := by decide +kernel
theorem dX8_preparePair_3 : decode cX8_preparePair 3 = .ok (.iconst 4, 1) := by decide +kernel
theorem dX8_preparePair_4 : decode cX8_preparePair 4 = .ok (.irem, 1) := by decide +kernel
theorem dX8_preparePair_5 : decode cX8_preparePair 5 = .ok (.iload_n 2, 1) := by decide +kernel
theorem dX8_preparePair_6 : decode cX8_preparePair 6 = .ok (.iload_n 3, 1) := by decide +kernel
theorem dX8_preparePair_7 : decode cX8_preparePair 7 = .ok (.iconst 4, 1) := by decide +kernel
theorem dX8_preparePair_8 : decode cX8_preparePair 8 = .ok (.idiv, 1) := by decide +kernel
theorem dX8_preparePair_9 : decode cX8_preparePair 9 = .ok (.invokevirtual 215, 3) := by decide +kernel
theorem dX8_preparePair_12 : decode cX8_preparePair 12 = .ok (.return_, 1) := by decide +kernel
theorem dX8_putBytes_0 : decode cX8_putBytes 0 = .ok (.bipush 24, 2) := by decide +kernel
theorem dX8_putBytes_2 : decode cX8_putBytes 2 = .ok (.istore_n 2, 1) := by decide +kernel
theorem dX8_putBytes_3 : decode cX8_putBytes 3 = .ok (.iload_n 2, 1) := by decide +kernel
theorem dX8_putBytes_4 : decode cX8_putBytes 4 = .ok (.ifCond .lt 42, 3) := by decide +kernel
theorem dX8_putBytes_46 : decode cX8_putBytes 46 = .ok (.return_, 1) := by decide +kernel
theorem dX8_putBytes_7 : decode cX8_putBytes 7 = .ok (.aload_n 0, 1) := by decide +kernel
theorem dX8_putBytes_8 : decode cX8_putBytes 8 = .ok (.getfield 64, 3) := by decide +kernel
theorem dX8_putBytes_11 : decode cX8_putBytes 11 = .ok (.sipush 1600, 3) := by decide +kernel
theorem dX8_putBytes_14 : decode cX8_putBytes 14 = .ok (.if_icmp .ge 32, 3) := by decide +kernel
theorem dX8_putBytes_17 : decode cX8_putBytes 17 = .ok (.aload_n 0, 1) := by decide +kernel
theorem dX8_putBytes_18 : decode cX8_putBytes 18 = .ok (.getfield 9, 3) := by decide +kernel
theorem dX8_putBytes_21 : decode cX8_putBytes 21 = .ok (.aload_n 0, 1) := by decide +kernel
theorem dX8_putBytes_22 : decode cX8_putBytes 22 = .ok (.getfield 64, 3) := by decide +kernel
theorem dX8_putBytes_25 : decode cX8_putBytes 25 = .ok (.iload_n 1, 1) := by decide +kernel
theorem dX8_putBytes_26 : decode cX8_putBytes 26 = .ok (.iload_n 2, 1) := by decide +kernel
theorem dX8_putBytes_27 : decode cX8_putBytes 27 = .ok (.iushr, 1) := by decide +kernel
theorem dX8_putBytes_28 : decode cX8_putBytes 28 = .ok (.i2b, 1) := by decide +kernel
theorem dX8_putBytes_29 : decode cX8_putBytes 29 = .ok (.bastore, 1) := by decide +kernel
theorem dX8_putBytes_30 : decode cX8_putBytes 30 = .ok (.aload_n 0, 1) := by decide +kernel
theorem dX8_putBytes_31 : decode cX8_putBytes 31 = .ok (.dup, 1) := by decide +kernel
theorem dX8_putBytes_32 : decode cX8_putBytes 32 = .ok (.getfield 64, 3) := by decide +kernel
theorem dX8_putBytes_35 : decode cX8_putBytes 35 = .ok (.iconst 1, 1) := by decide +kernel
theorem dX8_putBytes_36 : decode cX8_putBytes 36 = .ok (.iadd, 1) := by decide +kernel
theorem dX8_putBytes_37 : decode cX8_putBytes 37 = .ok (.putfield 64, 3) := by decide +kernel
theorem dX8_putBytes_40 : decode cX8_putBytes 40 = .ok (.iinc 2 (-8), 3) := by decide +kernel
theorem dX8_putBytes_43 : decode cX8_putBytes 43 = .ok (.goto (-40), 3) := by decide +kernel
theorem dX8_feed_0 : decode cX8_feed 0 = .ok (.aload_n 0, 1) := by decide +kernel
theorem dX8_feed_1 : decode cX8_feed 1 = .ok (.getfield 64, 3) := by decide +kernel
theorem dX8_feed_4 : decode cX8_feed 4 = .ok (.bipush 20, 2) := by decide +kernel
theorem dX8_feed_6 : decode cX8_feed 6 = .ok (.iadd, 1) := by decide +kernel
theorem dX8_feed_7 : decode cX8_feed 7 = .ok (.sipush 1600, 3) := by decide +kernel
theorem dX8_feed_10 : decode cX8_feed 10 = .ok (.if_icmp .le 5, 3) := by decide +kernel
theorem dX8_feed_15 : decode cX8_feed 15 = .ok (.aload_n 0, 1) := by decide +kernel
theorem dX8_feed_16 : decode cX8_feed 16 = .ok (.iload_n 1, 1) := by decide +kernel
theorem dX8_feed_17 : decode cX8_feed 17 = .ok (.invokevirtual 79, 3) := by decide +kernel
theorem dX8_feed_20 : decode cX8_feed 20 = .ok (.aload_n 0, 1) := by decide +kernel
theorem dX8_feed_21 : decode cX8_feed 21 = .ok (.iload_n 2, 1) := by decide +kernel
theorem dX8_feed_22 : decode cX8_feed 22 = .ok (.invokevirtual 79, 3) := by decide +kernel
theorem dX8_feed_25 : decode cX8_feed 25 = .ok (.aload_n 0, 1) := by decide +kernel
theorem dX8_feed_26 : decode cX8_feed 26 = .ok (.iload_n 3, 1) := by decide +kernel
theorem dX8_feed_27 : decode cX8_feed 27 = .ok (.invokevirtual 79, 3) := by decide +kernel
theorem dX8_feed_30 : decode cX8_feed 30 = .ok (.aload_n 0, 1) := by decide +kernel
theorem dX8_feed_31 : decode cX8_feed 31 = .ok (.iload 4, 2) := by decide +kernel
theorem dX8_feed_33 : decode cX8_feed 33 = .ok (.invokevirtual 79, 3) := by decide +kernel
theorem dX8_feed_36 : decode cX8_feed 36 = .ok (.aload_n 0, 1) := by decide +kernel
theorem dX8_feed_37 : decode cX8_feed 37 = .ok (.iload 5, 2) := by decide +kernel
theorem dX8_feed_39 : decode cX8_feed 39 = .ok (.invokevirtual 79, 3) := by decide +kernel
theorem dX8_feed_42 : decode cX8_feed 42 = .ok (.aload_n 0, 1) := by decide +kernel
theorem dX8_feed_43 : decode cX8_feed 43 = .ok (.getfield 64, 3) := by decide +kernel
theorem dX8_feed_46 : decode cX8_feed 46 = .ok (.ireturn, 1) := by decide +kernel
theorem dX8_feed_13 : decode cX8_feed 13 = .ok (.iconst (-1), 1) := by decide +kernel
theorem dX8_feed_14 : decode cX8_feed 14 = .ok (.ireturn, 1) := by decide +kernel
theorem dX8_end_0 : decode cX8_end 0 = .ok (.iload_n 1, 1) := by decide +kernel
theorem dX8_end_1 : decode cX8_end 1 = .ok (.ifCond .lt 11, 3) := by decide +kernel
theorem dX8_end_12 : decode cX8_end 12 = .ok (.iconst (-1), 1) := by decide +kernel
theorem dX8_end_13 : decode cX8_end 13 = .ok (.ireturn, 1) := by decide +kernel
theorem dX8_end_4 : decode cX8_end 4 = .ok (.iload_n 1, 1) := by decide +kernel
theorem dX8_end_5 : decode cX8_end 5 = .ok (.aload_n 0, 1) := by decide +kernel
theorem dX8_end_6 : decode cX8_end 6 = .ok (.getfield 64, 3) := by decide +kernel
theorem dX8_end_9 : decode cX8_end 9 = .ok (.if_icmp .le 5, 3) := by decide +kernel
theorem dX8_end_14 : decode cX8_end 14 = .ok (.aload_n 0, 1) := by decide +kernel
theorem dX8_end_15 : decode cX8_end 15 = .ok (.iload_n 1, 1) := by decide +kernel
theorem dX8_end_16 : decode cX8_end 16 = .ok (.putfield 64, 3) := by decide +kernel
theorem dX8_end_19 : decode cX8_end 19 = .ok (.iload_n 1, 1) := by decide +kernel
theorem dX8_end_20 : decode cX8_end 20 = .ok (.ireturn, 1) := by decide +kernel
theorem dX8_fault_0 : decode cX8_fault 0 = .ok (.iload_n 1, 1) := by decide +kernel
theorem dX8_fault_1 : decode cX8_fault 1 = .ok (.ifCond .ne 11, 3) := by decide +kernel
theorem dX8_fault_12 : decode cX8_fault 12 = .ok (.iload_n 1, 1) := by decide +kernel
theorem dX8_fault_13 : decode cX8_fault 13 = .ok (.iconst 1, 1) := by decide +kernel
theorem dX8_fault_14 : decode cX8_fault 14 = .ok (.if_icmp .ne 13, 3) := by decide +kernel
theorem dX8_fault_27 : decode cX8_fault 27 = .ok (.iconst (-1), 1) := by decide +kernel
theorem dX8_fault_28 : decode cX8_fault 28 = .ok (.ireturn, 1) := by decide +kernel
theorem dX8_fault_17 : decode cX8_fault 17 = .ok (.aload_n 0, 1) := by decide +kernel
theorem dX8_fault_18 : decode cX8_fault 18 = .ok (.getfield 16, 3) := by decide +kernel
theorem dX8_fault_21 : decode cX8_fault 21 = .ok (.getfield 101, 3) := by decide +kernel
theorem dX8_fault_24 : decode cX8_fault 24 = .ok (.goto 4, 3) := by decide +kernel
theorem dX8_fault_4 : decode cX8_fault 4 = .ok (.aload_n 0, 1) := by decide +kernel
theorem dX8_fault_5 : decode cX8_fault 5 = .ok (.getfield 16, 3) := by decide +kernel
theorem dX8_fault_8 : decode cX8_fault 8 = .ok (.getfield 98, 3) := by decide +kernel
theorem dX8_fault_11 : decode cX8_fault 11 = .ok (.ireturn, 1) := by decide +kernel
theorem dJ6_bitCount_0f7a4_0 : decode cJ6_bitCount_0f7a4 0 = .ok (.iload_n 0, 1) := by decide +kernel
theorem dJ6_bitCount_0f7a4_1 : decode cJ6_bitCount_0f7a4 1 = .ok (.iload_n 0, 1) := by decide +kernel
theorem dJ6_bitCount_0f7a4_2 : decode cJ6_bitCount_0f7a4 2 = .ok (.iconst 1, 1) := by decide +kernel
theorem dJ6_bitCount_0f7a4_3 : decode cJ6_bitCount_0f7a4 3 = .ok (.iushr, 1) := by decide +kernel
theorem dJ6_bitCount_0f7a4_4 : decode cJ6_bitCount_0f7a4 4 = .ok (.ldc_w 265, 3) := by decide +kernel
theorem dJ6_bitCount_0f7a4_7 : decode cJ6_bitCount_0f7a4 7 = .ok (.iand, 1) := by decide +kernel
theorem dJ6_bitCount_0f7a4_8 : decode cJ6_bitCount_0f7a4 8 = .ok (.isub, 1) := by decide +kernel
theorem dJ6_bitCount_0f7a4_9 : decode cJ6_bitCount_0f7a4 9 = .ok (.istore_n 0, 1) := by decide +kernel
theorem dJ6_bitCount_0f7a4_10 : decode cJ6_bitCount_0f7a4 10 = .ok (.iload_n 0, 1) := by decide +kernel
theorem dJ6_bitCount_0f7a4_11 : decode cJ6_bitCount_0f7a4 11 = .ok (.ldc_w 266, 3) := by decide +kernel
theorem dJ6_bitCount_0f7a4_14 : decode cJ6_bitCount_0f7a4 14 = .ok (.iand, 1) := by decide +kernel
theorem dJ6_bitCount_0f7a4_15 : decode cJ6_bitCount_0f7a4 15 = .ok (.iload_n 0, 1) := by decide +kernel
theorem dJ6_bitCount_0f7a4_16 : decode cJ6_bitCount_0f7a4 16 = .ok (.iconst 2, 1) := by decide +kernel
theorem dJ6_bitCount_0f7a4_17 : decode cJ6_bitCount_0f7a4 17 = .ok (.iushr, 1) := by decide +kernel
theorem dJ6_bitCount_0f7a4_18 : decode cJ6_bitCount_0f7a4 18 = .ok (.ldc_w 266, 3) := by decide +kernel
theorem dJ6_bitCount_0f7a4_21 : decode cJ6_bitCount_0f7a4 21 = .ok (.iand, 1) := by decide +kernel
theorem dJ6_bitCount_0f7a4_22 : decode cJ6_bitCount_0f7a4 22 = .ok (.iadd, 1) := by decide +kernel
theorem dJ6_bitCount_0f7a4_23 : decode cJ6_bitCount_0f7a4 23 = .ok (.istore_n 0, 1) := by decide +kernel
theorem dJ6_bitCount_0f7a4_24 : decode cJ6_bitCount_0f7a4 24 = .ok (.iload_n 0, 1) := by decide +kernel
theorem dJ6_bitCount_0f7a4_25 : decode cJ6_bitCount_0f7a4 25 = .ok (.iload_n 0, 1) := by decide +kernel
theorem dJ6_bitCount_0f7a4_26 : decode cJ6_bitCount_0f7a4 26 = .ok (.iconst 4, 1) := by decide +kernel
theorem dJ6_bitCount_0f7a4_27 : decode cJ6_bitCount_0f7a4 27 = .ok (.iushr, 1) := by decide +kernel
theorem dJ6_bitCount_0f7a4_28 : decode cJ6_bitCount_0f7a4 28 = .ok (.iadd, 1) := by decide +kernel
theorem dJ6_bitCount_0f7a4_29 : decode cJ6_bitCount_0f7a4 29 = .ok (.ldc_w 267, 3) := by decide +kernel
theorem dJ6_bitCount_0f7a4_32 : decode cJ6_bitCount_0f7a4 32 = .ok (.iand, 1) := by decide +kernel
theorem dJ6_bitCount_0f7a4_33 : decode cJ6_bitCount_0f7a4 33 = .ok (.istore_n 0, 1) := by decide +kernel
theorem dJ6_bitCount_0f7a4_34 : decode cJ6_bitCount_0f7a4 34 = .ok (.iload_n 0, 1) := by decide +kernel
theorem dJ6_bitCount_0f7a4_35 : decode cJ6_bitCount_0f7a4 35 = .ok (.iload_n 0, 1) := by decide +kernel
theorem dJ6_bitCount_0f7a4_36 : decode cJ6_bitCount_0f7a4 36 = .ok (.bipush 8, 2) := by decide +kernel
theorem dJ6_bitCount_0f7a4_38 : decode cJ6_bitCount_0f7a4 38 = .ok (.iushr, 1) := by decide +kernel
theorem dJ6_bitCount_0f7a4_39 : decode cJ6_bitCount_0f7a4 39 = .ok (.iadd, 1) := by decide +kernel
theorem dJ6_bitCount_0f7a4_40 : decode cJ6_bitCount_0f7a4 40 = .ok (.istore_n 0, 1) := by decide +kernel
theorem dJ6_bitCount_0f7a4_41 : decode cJ6_bitCount_0f7a4 41 = .ok (.iload_n 0, 1) := by decide +kernel
theorem dJ6_bitCount_0f7a4_42 : decode cJ6_bitCount_0f7a4 42 = .ok (.iload_n 0, 1) := by decide +kernel
theorem dJ6_bitCount_0f7a4_43 : decode cJ6_bitCount_0f7a4 43 = .ok (.bipush 16, 2) := by decide +kernel
theorem dJ6_bitCount_0f7a4_45 : decode cJ6_bitCount_0f7a4 45 = .ok (.iushr, 1) := by decide +kernel
theorem dJ6_bitCount_0f7a4_46 : decode cJ6_bitCount_0f7a4 46 = .ok (.iadd, 1) := by decide +kernel
theorem dJ6_bitCount_0f7a4_47 : decode cJ6_bitCount_0f7a4 47 = .ok (.istore_n 0, 1) := by decide +kernel
theorem dJ6_bitCount_0f7a4_48 : decode cJ6_bitCount_0f7a4 48 = .ok (.iload_n 0, 1) := by decide +kernel
theorem dJ6_bitCount_0f7a4_49 : decode cJ6_bitCount_0f7a4 49 = .ok (.bipush 63, 2) := by decide +kernel
theorem dJ6_bitCount_0f7a4_51 : decode cJ6_bitCount_0f7a4 51 = .ok (.iand, 1) := by decide +kernel
theorem dJ6_bitCount_0f7a4_52 : decode cJ6_bitCount_0f7a4 52 = .ok (.ireturn, 1) := by decide +kernel
theorem dX8_knot_0 : decode cX8_knot 0 = .ok (.aload_n 0, 1) := by decide +kernel
theorem dX8_knot_1 : decode cX8_knot 1 = .ok (.getfield 60, 3) := by decide +kernel
theorem dX8_knot_4 : decode cX8_knot 4 = .ok (.iconst 0, 1) := by decide +kernel
theorem dX8_knot_5 : decode cX8_knot 5 = .ok (.iload_n 1, 1) := by decide +kernel
theorem dX8_knot_6 : decode cX8_knot 6 = .ok (.invokevirtual 104, 3) := by decide +kernel
theorem dX8_knot_9 : decode cX8_knot 9 = .ok (.ifCond .ne 5, 3) := by decide +kernel
theorem dX8_knot_14 : decode cX8_knot 14 = .ok (.iload_n 2, 1) := by decide +kernel
theorem dX8_knot_15 : decode cX8_knot 15 = .ok (.tableswitch 70 0 2 #[25, 35, 45], 25) := by decide +kernel
theorem dX8_knot_40 : decode cX8_knot 40 = .ok (.aload_n 0, 1) := by decide +kernel
theorem dX8_knot_41 : decode cX8_knot 41 = .ok (.getfield 60, 3) := by decide +kernel
theorem dX8_knot_44 : decode cX8_knot 44 = .ok (.getfield 108, 3) := by decide +kernel
theorem dX8_knot_47 : decode cX8_knot 47 = .ok (.iload_n 1, 1) := by decide +kernel
theorem dX8_knot_48 : decode cX8_knot 48 = .ok (.iaload, 1) := by decide +kernel
theorem dX8_knot_49 : decode cX8_knot 49 = .ok (.ireturn, 1) := by decide +kernel
theorem dX8_knot_50 : decode cX8_knot 50 = .ok (.aload_n 0, 1) := by decide +kernel
theorem dX8_knot_51 : decode cX8_knot 51 = .ok (.getfield 60, 3) := by decide +kernel
theorem dX8_knot_54 : decode cX8_knot 54 = .ok (.getfield 111, 3) := by decide +kernel
theorem dX8_knot_57 : decode cX8_knot 57 = .ok (.iload_n 1, 1) := by decide +kernel
theorem dX8_knot_58 : decode cX8_knot 58 = .ok (.iaload, 1) := by decide +kernel
theorem dX8_knot_59 : decode cX8_knot 59 = .ok (.ireturn, 1) := by decide +kernel
theorem dX8_knot_60 : decode cX8_knot 60 = .ok (.aload_n 0, 1) := by decide +kernel
theorem dX8_knot_61 : decode cX8_knot 61 = .ok (.getfield 60, 3) := by decide +kernel
theorem dX8_knot_64 : decode cX8_knot 64 = .ok (.getfield 108, 3) := by decide +kernel
theorem dX8_knot_67 : decode cX8_knot 67 = .ok (.iload_n 1, 1) := by decide +kernel
theorem dX8_knot_68 : decode cX8_knot 68 = .ok (.iaload, 1) := by decide +kernel
theorem dX8_knot_69 : decode cX8_knot 69 = .ok (.aload_n 0, 1) := by decide +kernel
theorem dX8_knot_70 : decode cX8_knot 70 = .ok (.getfield 60, 3) := by decide +kernel
theorem dX8_knot_73 : decode cX8_knot 73 = .ok (.getfield 111, 3) := by decide +kernel
theorem dX8_knot_76 : decode cX8_knot 76 = .ok (.iload_n 1, 1) := by decide +kernel
theorem dX8_knot_77 : decode cX8_knot 77 = .ok (.iaload, 1) := by decide +kernel
theorem dX8_knot_78 : decode cX8_knot 78 = .ok (.invokestatic 114, 3) := by decide +kernel
theorem dX8_knot_81 : decode cX8_knot 81 = .ok (.invokestatic 118, 3) := by decide +kernel
theorem dX8_knot_84 : decode cX8_knot 84 = .ok (.ireturn, 1) := by decide +kernel
theorem dX8_knot_85 : decode cX8_knot 85 = .ok (.iconst (-1), 1) := by decide +kernel
theorem dX8_knot_86 : decode cX8_knot 86 = .ok (.ireturn, 1) := by decide +kernel
theorem dX8_knot_12 : decode cX8_knot 12 = .ok (.iconst (-1), 1) := by decide +kernel
theorem dX8_knot_13 : decode cX8_knot 13 = .ok (.ireturn, 1) := by decide +kernel
theorem dX8_tie_0 : decode cX8_tie 0 = .ok (.aload_n 0, 1) := by decide +kernel
theorem dX8_tie_1 : decode cX8_tie 1 = .ok (.getfield 60, 3) := by decide +kernel
theorem dX8_tie_4 : decode cX8_tie 4 = .ok (.iconst 0, 1) := by decide +kernel
theorem dX8_tie_5 : decode cX8_tie 5 = .ok (.iload_n 1, 1) := by decide +kernel
theorem dX8_tie_6 : decode cX8_tie 6 = .ok (.invokevirtual 104, 3) := by decide +kernel
theorem dX8_tie_9 : decode cX8_tie 9 = .ok (.ifCond .eq 15, 3) := by decide +kernel
theorem dX8_tie_12 : decode cX8_tie 12 = .ok (.aload_n 0, 1) := by decide +kernel
theorem dX8_tie_13 : decode cX8_tie 13 = .ok (.getfield 60, 3) := by decide +kernel
theorem dX8_tie_16 : decode cX8_tie 16 = .ok (.iconst 1, 1) := by decide +kernel
theorem dX8_tie_17 : decode cX8_tie 17 = .ok (.iload_n 2, 1) := by decide +kernel
theorem dX8_tie_18 : decode cX8_tie 18 = .ok (.invokevirtual 104, 3) := by decide +kernel
theorem dX8_tie_21 : decode cX8_tie 21 = .ok (.ifCond .ne 5, 3) := by decide +kernel
theorem dX8_tie_26 : decode cX8_tie 26 = .ok (.aload_n 0, 1) := by decide +kernel
theorem dX8_tie_27 : decode cX8_tie 27 = .ok (.getfield 23, 3) := by decide +kernel
theorem dX8_tie_30 : decode cX8_tie 30 = .ok (.aload_n 0, 1) := by decide +kernel
theorem dX8_tie_31 : decode cX8_tie 31 = .ok (.getfield 60, 3) := by decide +kernel
theorem dX8_tie_34 : decode cX8_tie 34 = .ok (.getfield 108, 3) := by decide +kernel
theorem dX8_tie_37 : decode cX8_tie 37 = .ok (.iload_n 1, 1) := by decide +kernel
theorem dX8_tie_38 : decode cX8_tie 38 = .ok (.iaload, 1) := by decide +kernel
theorem dX8_tie_39 : decode cX8_tie 39 = .ok (.aload_n 0, 1) := by decide +kernel
theorem dX8_tie_40 : decode cX8_tie 40 = .ok (.getfield 60, 3) := by decide +kernel
theorem dX8_tie_43 : decode cX8_tie 43 = .ok (.getfield 111, 3) := by decide +kernel
theorem dX8_tie_46 : decode cX8_tie 46 = .ok (.iload_n 1, 1) := by decide +kernel
theorem dX8_tie_47 : decode cX8_tie 47 = .ok (.iaload, 1) := by decide +kernel
theorem dX8_tie_48 : decode cX8_tie 48 = .ok (.invokevirtual 124, 3) := by decide +kernel
theorem dX8_tie_51 : decode cX8_tie 51 = .ok (.aload_n 0, 1) := by decide +kernel
theorem dX8_tie_52 : decode cX8_tie 52 = .ok (.getfield 23, 3) := by decide +kernel
theorem dX8_tie_55 : decode cX8_tie 55 = .ok (.aload_n 0, 1) := by decide +kernel
theorem dX8_tie_56 : decode cX8_tie 56 = .ok (.getfield 60, 3) := by decide +kernel
theorem dX8_tie_59 : decode cX8_tie 59 = .ok (.getfield 128, 3) := by decide +kernel
theorem dX8_tie_62 : decode cX8_tie 62 = .ok (.iload_n 2, 1) := by decide +kernel
theorem dX8_tie_63 : decode cX8_tie 63 = .ok (.iaload, 1) := by decide +kernel
theorem dX8_tie_64 : decode cX8_tie 64 = .ok (.aload_n 0, 1) := by decide +kernel
theorem dX8_tie_65 : decode cX8_tie 65 = .ok (.getfield 60, 3) := by decide +kernel
theorem dX8_tie_68 : decode cX8_tie 68 = .ok (.getfield 131, 3) := by decide +kernel
theorem dX8_tie_71 : decode cX8_tie 71 = .ok (.iload_n 2, 1) := by decide +kernel
theorem dX8_tie_72 : decode cX8_tie 72 = .ok (.iaload, 1) := by decide +kernel
theorem dX8_tie_73 : decode cX8_tie 73 = .ok (.aload_n 0, 1) := by decide +kernel
theorem dX8_tie_74 : decode cX8_tie 74 = .ok (.getfield 60, 3) := by decide +kernel
theorem dX8_tie_77 : decode cX8_tie 77 = .ok (.getfield 134, 3) := by decide +kernel
theorem dX8_tie_80 : decode cX8_tie 80 = .ok (.iload_n 2, 1) := by decide +kernel
theorem dX8_tie_81 : decode cX8_tie 81 = .ok (.iaload, 1) := by decide +kernel
theorem dX8_tie_82 : decode cX8_tie 82 = .ok (.invokevirtual 137, 3) := by decide +kernel
theorem dX8_tie_85 : decode cX8_tie 85 = .ok (.aload_n 0, 1) := by decide +kernel
theorem dX8_tie_86 : decode cX8_tie 86 = .ok (.getfield 23, 3) := by decide +kernel
theorem dX8_tie_89 : decode cX8_tie 89 = .ok (.aload_n 0, 1) := by decide +kernel
theorem dX8_tie_90 : decode cX8_tie 90 = .ok (.getfield 60, 3) := by decide +kernel
theorem dX8_tie_93 : decode cX8_tie 93 = .ok (.getfield 141, 3) := by decide +kernel
theorem dX8_tie_96 : decode cX8_tie 96 = .ok (.iconst 0, 1) := by decide +kernel
theorem dX8_tie_97 : decode cX8_tie 97 = .ok (.iaload, 1) := by decide +kernel
theorem dX8_tie_98 : decode cX8_tie 98 = .ok (.invokevirtual 144, 3) := by decide +kernel
theorem dX8_tie_101 : decode cX8_tie 101 = .ok (.aload_n 0, 1) := by decide +kernel
theorem dX8_tie_102 : decode cX8_tie 102 = .ok (.iconst 1, 1) := by decide +kernel
theorem dX8_tie_103 : decode cX8_tie 103 = .ok (.putfield 68, 3) := by decide +kernel
theorem dX8_tie_106 : decode cX8_tie 106 = .ok (.aload_n 0, 1) := by decide +kernel
theorem dX8_tie_107 : decode cX8_tie 107 = .ok (.getfield 23, 3) := by decide +kernel
theorem dX8_tie_110 : decode cX8_tie 110 = .ok (.getfield 147, 3) := by decide +kernel
theorem dX8_tie_113 : decode cX8_tie 113 = .ok (.ireturn, 1) := by decide +kernel
theorem dX8_tie_24 : decode cX8_tie 24 = .ok (.iconst (-1), 1) := by decide +kernel
theorem dX8_tie_25 : decode cX8_tie 25 = .ok (.ireturn, 1) := by decide +kernel
theorem dX8_draw_0 : decode cX8_draw 0 = .ok (.aload_n 0, 1) := by decide +kernel
theorem dX8_draw_1 : decode cX8_draw 1 = .ok (.aload_n 0, 1) := by decide +kernel
theorem dX8_draw_2 : decode cX8_draw 2 = .ok (.getfield 72, 3) := by decide +kernel
theorem dX8_draw_5 : decode cX8_draw 5 = .ok (.ldc 192, 2) := by decide +kernel
theorem dX8_draw_7 : decode cX8_draw 7 = .ok (.imul, 1) := by decide +kernel
theorem dX8_draw_8 : decode cX8_draw 8 = .ok (.sipush 12345, 3) := by decide +kernel
theorem dX8_draw_11 : decode cX8_draw 11 = .ok (.iadd, 1) := by decide +kernel
theorem dX8_draw_12 : decode cX8_draw 12 = .ok (.putfield 72, 3) := by decide +kernel
theorem dX8_draw_15 : decode cX8_draw 15 = .ok (.iload_n 1, 1) := by decide +kernel
theorem dX8_draw_16 : decode cX8_draw 16 = .ok (.ifCond .le 15, 3) := by decide +kernel
theorem dX8_draw_31 : decode cX8_draw 31 = .ok (.iconst 0, 1) := by decide +kernel
theorem dX8_draw_32 : decode cX8_draw 32 = .ok (.ireturn, 1) := by decide +kernel
theorem dX8_draw_19 : decode cX8_draw 19 = .ok (.aload_n 0, 1) := by decide +kernel
theorem dX8_draw_20 : decode cX8_draw 20 = .ok (.getfield 72, 3) := by decide +kernel
theorem dX8_draw_23 : decode cX8_draw 23 = .ok (.bipush 16, 2) := by decide +kernel
theorem dX8_draw_25 : decode cX8_draw 25 = .ok (.iushr, 1) := by decide +kernel
theorem dX8_draw_26 : decode cX8_draw 26 = .ok (.iload_n 1, 1) := by decide +kernel
theorem dX8_draw_27 : decode cX8_draw 27 = .ok (.irem, 1) := by decide +kernel
theorem dX8_draw_28 : decode cX8_draw 28 = .ok (.goto 4, 3) := by decide +kernel
theorem dX8_stepInEarnest_22 : decode cX8_stepInEarnest 22 = .ok (.istore_n 2, 1) := by decide +kernel
theorem dX8_stepInEarnest_23 : decode cX8_stepInEarnest 23 = .ok (.aload_n 0, 1) := by decide +kernel
theorem dX8_stepInEarnest_24 : decode cX8_stepInEarnest 24 = .ok (.getfield 60, 3) := by decide +kernel
theorem dX8_stepInEarnest_27 : decode cX8_stepInEarnest 27 = .ok (.getfield 167, 3) := by decide +kernel
theorem dX8_stepInEarnest_30 : decode cX8_stepInEarnest 30 = .ok (.iload_n 1, 1) := by decide +kernel
theorem dX8_stepInEarnest_31 : decode cX8_stepInEarnest 31 = .ok (.aaload, 1) := by decide +kernel
theorem dX8_stepInEarnest_34 : decode cX8_stepInEarnest 34 = .ok (.istore_n 3, 1) := by decide +kernel
theorem dX8_stepInEarnest_35 : decode cX8_stepInEarnest 35 = .ok (.aload_n 0, 1) := by decide +kernel
theorem dX8_stepInEarnest_36 : decode cX8_stepInEarnest 36 = .ok (.getfield 60, 3) := by decide +kernel
theorem dX8_stepInEarnest_39 : decode cX8_stepInEarnest 39 = .ok (.getfield 141, 3) := by decide +kernel
theorem dX8_stepInEarnest_42 : decode cX8_stepInEarnest 42 = .ok (.iconst 1, 1) := by decide +kernel
theorem dX8_stepInEarnest_43 : decode cX8_stepInEarnest 43 = .ok (.iaload, 1) := by decide +kernel
theorem dX8_stepInEarnest_44 : decode cX8_stepInEarnest 44 = .ok (.istore 4, 2) := by decide +kernel
theorem dX8_stepInEarnest_71 : decode cX8_stepInEarnest 71 = .ok (.aload_n 0, 1) := by decide +kernel
theorem dX8_stepInEarnest_72 : decode cX8_stepInEarnest 72 = .ok (.getfield 23, 3) := by decide +kernel
theorem dX8_stepInEarnest_75 : decode cX8_stepInEarnest 75 = .ok (.iload_n 1, 1) := by decide +kernel
theorem dX8_stepInEarnest_76 : decode cX8_stepInEarnest 76 = .ok (.putfield 161, 3) := by decide +kernel
theorem dX8_stepInEarnest_79 : decode cX8_stepInEarnest 79 = .ok (.aload_n 0, 1) := by decide +kernel
theorem dX8_stepInEarnest_80 : decode cX8_stepInEarnest 80 = .ok (.getfield 23, 3) := by decide +kernel
theorem dX8_stepInEarnest_105 : decode cX8_stepInEarnest 105 = .ok (.putfield 164, 3) := by decide +kernel
theorem dX8_stepInEarnest_108 : decode cX8_stepInEarnest 108 = .ok (.aload_n 0, 1) := by decide +kernel
theorem dX8_stepInEarnest_109 : decode cX8_stepInEarnest 109 = .ok (.getfield 23, 3) := by decide +kernel
theorem dX8_stepInEarnest_112 : decode cX8_stepInEarnest 112 = .ok (.dup, 1) := by decide +kernel
theorem dX8_stepInEarnest_113 : decode cX8_stepInEarnest 113 = .ok (.getfield 154, 3) := by decide +kernel
theorem dX8_stepInEarnest_116 : decode cX8_stepInEarnest 116 = .ok (.iconst 1, 1) := by decide +kernel
theorem dX8_stepInEarnest_117 : decode cX8_stepInEarnest 117 = .ok (.iadd, 1) := by decide +kernel
theorem dX8_stepInEarnest_118 : decode cX8_stepInEarnest 118 = .ok (.putfield 154, 3) := by decide +kernel
theorem dX8_stepInEarnest_121 : decode cX8_stepInEarnest 121 = .ok (.aload_n 0, 1) := by decide +kernel
theorem dX8_stepInEarnest_122 : decode cX8_stepInEarnest 122 = .ok (.getfield 23, 3) := by decide +kernel
theorem dX8_stepInEarnest_125 : decode cX8_stepInEarnest 125 = .ok (.aload_n 0, 1) := by decide +kernel
theorem dX8_stepInEarnest_126 : decode cX8_stepInEarnest 126 = .ok (.getfield 60, 3) := by decide +kernel
theorem dX8_stepInEarnest_129 : decode cX8_stepInEarnest 129 = .ok (.getfield 181, 3) := by decide +kernel
theorem dX8_stepInEarnest_132 : decode cX8_stepInEarnest 132 = .ok (.iconst 0, 1) := by decide +kernel
theorem dX8_stepInEarnest_133 : decode cX8_stepInEarnest 133 = .ok (.aload_n 0, 1) := by decide +kernel
theorem dX8_stepInEarnest_134 : decode cX8_stepInEarnest 134 = .ok (.getfield 60, 3) := by decide +kernel
theorem dX8_stepInEarnest_137 : decode cX8_stepInEarnest 137 = .ok (.getfield 185, 3) := by decide +kernel
theorem dX8_stepInEarnest_140 : decode cX8_stepInEarnest 140 = .ok (.iload_n 1, 1) := by decide +kernel
theorem dX8_stepInEarnest_141 : decode cX8_stepInEarnest 141 = .ok (.aaload, 1) := by decide +kernel
theorem dX8_stepInEarnest_144 : decode cX8_stepInEarnest 144 = .ok (.iload_n 3, 1) := by decide +kernel
theorem dX8_stepInEarnest_145 : decode cX8_stepInEarnest 145 = .ok (.invokevirtual 188, 3) := by decide +kernel
theorem dX8_stepInEarnest_148 : decode cX8_stepInEarnest 148 = .ok (.ireturn, 1) := by decide +kernel
theorem dX8_stepInEarnest_142 : decode cX8_stepInEarnest 142 = .ok (.iload_n 2, 1) := by decide +kernel
theorem dX8_stepInEarnest_143 : decode cX8_stepInEarnest 143 = .ok (.iaload, 1) := by decide +kernel
theorem dX8_stepInEarnest_83 : decode cX8_stepInEarnest 83 = .ok (.iload_n 2, 1) := by decide +kernel
theorem dX8_stepInEarnest_84 : decode cX8_stepInEarnest 84 = .ok (.iconst 1, 1) := by decide +kernel
theorem dX8_stepInEarnest_85 : decode cX8_stepInEarnest 85 = .ok (.iadd, 1) := by decide +kernel
theorem dX8_stepInEarnest_86 : decode cX8_stepInEarnest 86 = .ok (.aload_n 0, 1) := by decide +kernel
theorem dX8_stepInEarnest_87 : decode cX8_stepInEarnest 87 = .ok (.getfield 60, 3) := by decide +kernel
theorem dX8_stepInEarnest_90 : decode cX8_stepInEarnest 90 = .ok (.getfield 179, 3) := by decide +kernel
theorem dX8_stepInEarnest_93 : decode cX8_stepInEarnest 93 = .ok (.iload_n 1, 1) := by decide +kernel
theorem dX8_stepInEarnest_94 : decode cX8_stepInEarnest 94 = .ok (.iaload, 1) := by decide +kernel
theorem dX8_stepInEarnest_95 : decode cX8_stepInEarnest 95 = .ok (.if_icmp .ge 9, 3) := by decide +kernel
theorem dX8_stepInEarnest_104 : decode cX8_stepInEarnest 104 = .ok (.iconst 0, 1) := by decide +kernel
theorem dX8_stepInEarnest_98 : decode cX8_stepInEarnest 98 = .ok (.iload_n 2, 1) := by decide +kernel
theorem dX8_stepInEarnest_99 : decode cX8_stepInEarnest 99 = .ok (.iconst 1, 1) := by decide +kernel
theorem dX8_stepInEarnest_100 : decode cX8_stepInEarnest 100 = .ok (.iadd, 1) := by decide +kernel
theorem dX8_stepInEarnest_101 : decode cX8_stepInEarnest 101 = .ok (.goto 4, 3) := by decide +kernel
theorem dX8_stepInEarnest_46 : decode cX8_stepInEarnest 46 = .ok (.iload 4, 2) := by decide +kernel
theorem dX8_stepInEarnest_48 : decode cX8_stepInEarnest 48 = .ok (.ifCond .eq 23, 3) := by decide +kernel
theorem dX8_stepInEarnest_51 : decode cX8_stepInEarnest 51 = .ok (.iconst 0, 1) := by decide +kernel
theorem dX8_stepInEarnest_52 : decode cX8_stepInEarnest 52 = .ok (.iload_n 3, 1) := by decide +kernel
theorem dX8_stepInEarnest_53 : decode cX8_stepInEarnest 53 = .ok (.aload_n 0, 1) := by decide +kernel
theorem dX8_stepInEarnest_54 : decode cX8_stepInEarnest 54 = .ok (.iconst 2, 1) := by decide +kernel
theorem dX8_stepInEarnest_55 : decode cX8_stepInEarnest 55 = .ok (.iload 4, 2) := by decide +kernel
theorem dX8_stepInEarnest_57 : decode cX8_stepInEarnest 57 = .ok (.imul, 1) := by decide +kernel
theorem dX8_stepInEarnest_58 : decode cX8_stepInEarnest 58 = .ok (.iconst 1, 1) := by decide +kernel
theorem dX8_stepInEarnest_59 : decode cX8_stepInEarnest 59 = .ok (.iadd, 1) := by decide +kernel
theorem dX8_stepInEarnest_60 : decode cX8_stepInEarnest 60 = .ok (.invokevirtual 171, 3) := by decide +kernel
theorem dX8_stepInEarnest_63 : decode cX8_stepInEarnest 63 = .ok (.iadd, 1) := by decide +kernel
theorem dX8_stepInEarnest_64 : decode cX8_stepInEarnest 64 = .ok (.iload 4, 2) := by decide +kernel
theorem dX8_stepInEarnest_66 : decode cX8_stepInEarnest 66 = .ok (.isub, 1) := by decide +kernel
theorem dX8_stepInEarnest_67 : decode cX8_stepInEarnest 67 = .ok (.invokestatic 174, 3) := by decide +kernel
theorem dX8_stepInEarnest_70 : decode cX8_stepInEarnest 70 = .ok (.istore_n 3, 1) := by decide +kernel
theorem dX8_stepInEarnest_32 : decode cX8_stepInEarnest 32 = .ok (.iload_n 2, 1) := by decide +kernel
theorem dX8_stepInEarnest_33 : decode cX8_stepInEarnest 33 = .ok (.iaload, 1) := by decide +kernel
theorem dX8_stepInEarnest_0 : decode cX8_stepInEarnest 0 = .ok (.aload_n 0, 1) := by decide +kernel
theorem dX8_stepInEarnest_1 : decode cX8_stepInEarnest 1 = .ok (.getfield 23, 3) := by decide +kernel
theorem dX8_stepInEarnest_4 : decode cX8_stepInEarnest 4 = .ok (.getfield 161, 3) := by decide +kernel
theorem dX8_stepInEarnest_7 : decode cX8_stepInEarnest 7 = .ok (.iload_n 1, 1) := by decide +kernel
theorem dX8_stepInEarnest_8 : decode cX8_stepInEarnest 8 = .ok (.if_icmp .ne 13, 3) := by decide +kernel
theorem dX8_stepInEarnest_21 : decode cX8_stepInEarnest 21 = .ok (.iconst 0, 1) := by decide +kernel
theorem dX8_stepInEarnest_11 : decode cX8_stepInEarnest 11 = .ok (.aload_n 0, 1) := by decide +kernel
theorem dX8_stepInEarnest_12 : decode cX8_stepInEarnest 12 = .ok (.getfield 23, 3) := by decide +kernel
theorem dX8_stepInEarnest_15 : decode cX8_stepInEarnest 15 = .ok (.getfield 164, 3) := by decide +kernel
theorem dX8_stepInEarnest_18 : decode cX8_stepInEarnest 18 = .ok (.goto 4, 3) := by decide +kernel
theorem dX8_walk_0 : decode cX8_walk 0 = .ok (.aload_n 0, 1) := by decide +kernel
theorem dX8_walk_1 : decode cX8_walk 1 = .ok (.getfield 68, 3) := by decide +kernel
theorem dX8_walk_4 : decode cX8_walk 4 = .ok (.ifCond .eq 26, 3) := by decide +kernel
theorem dX8_walk_30 : decode cX8_walk 30 = .ok (.iconst (-1), 1) := by decide +kernel
theorem dX8_walk_31 : decode cX8_walk 31 = .ok (.ireturn, 1) := by decide +kernel
theorem dX8_walk_7 : decode cX8_walk 7 = .ok (.aload_n 0, 1) := by decide +kernel
theorem dX8_walk_8 : decode cX8_walk 8 = .ok (.getfield 60, 3) := by decide +kernel
theorem dX8_walk_11 : decode cX8_walk 11 = .ok (.iconst 2, 1) := by decide +kernel
theorem dX8_walk_12 : decode cX8_walk 12 = .ok (.iload_n 1, 1) := by decide +kernel
theorem dX8_walk_13 : decode cX8_walk 13 = .ok (.invokevirtual 104, 3) := by decide +kernel
theorem dX8_walk_16 : decode cX8_walk 16 = .ok (.ifCond .eq 14, 3) := by decide +kernel
theorem dX8_walk_19 : decode cX8_walk 19 = .ok (.iload_n 2, 1) := by decide +kernel
theorem dX8_walk_20 : decode cX8_walk 20 = .ok (.iconst 0, 1) := by decide +kernel
theorem dX8_walk_21 : decode cX8_walk 21 = .ok (.sipush 500, 3) := by decide +kernel
theorem dX8_walk_24 : decode cX8_walk 24 = .ok (.invokestatic 150, 3) := by decide +kernel
theorem dX8_walk_27 : decode cX8_walk 27 = .ok (.ifCond .ne 5, 3) := by decide +kernel
theorem dX8_walk_32 : decode cX8_walk 32 = .ok (.aload_n 0, 1) := by decide +kernel
theorem dX8_walk_33 : decode cX8_walk 33 = .ok (.getfield 23, 3) := by decide +kernel
theorem dX8_walk_36 : decode cX8_walk 36 = .ok (.getfield 154, 3) := by decide +kernel
theorem dX8_walk_39 : decode cX8_walk 39 = .ok (.iload_n 2, 1) := by decide +kernel
theorem dX8_walk_40 : decode cX8_walk 40 = .ok (.iadd, 1) := by decide +kernel
theorem dX8_walk_41 : decode cX8_walk 41 = .ok (.ldc 157, 2) := by decide +kernel
theorem dX8_walk_43 : decode cX8_walk 43 = .ok (.if_icmp .le 5, 3) := by decide +kernel
theorem dX8_walk_48 : decode cX8_walk 48 = .ok (.iconst 0, 1) := by decide +kernel
theorem dX8_walk_49 : decode cX8_walk 49 = .ok (.istore_n 3, 1) := by decide +kernel
theorem dX8_walk_50 : decode cX8_walk 50 = .ok (.iconst 0, 1) := by decide +kernel
theorem dX8_walk_51 : decode cX8_walk 51 = .ok (.istore 4, 2) := by decide +kernel
theorem dX8_walk_53 : decode cX8_walk 53 = .ok (.iload 4, 2) := by decide +kernel
theorem dX8_walk_55 : decode cX8_walk 55 = .ok (.iload_n 2, 1) := by decide +kernel
theorem dX8_walk_56 : decode cX8_walk 56 = .ok (.if_icmp .ge 27, 3) := by decide +kernel
theorem dX8_walk_83 : decode cX8_walk 83 = .ok (.iload_n 3, 1) := by decide +kernel
theorem dX8_walk_84 : decode cX8_walk 84 = .ok (.ireturn, 1) := by decide +kernel
theorem dX8_walk_59 : decode cX8_walk 59 = .ok (.aload_n 0, 1) := by decide +kernel
theorem dX8_walk_60 : decode cX8_walk 60 = .ok (.getfield 23, 3) := by decide +kernel
theorem dX8_walk_63 : decode cX8_walk 63 = .ok (.getfield 147, 3) := by decide +kernel
theorem dX8_walk_66 : decode cX8_walk 66 = .ok (.ifCond .le 17, 3) := by decide +kernel
theorem dX8_walk_69 : decode cX8_walk 69 = .ok (.iload_n 3, 1) := by decide +kernel
theorem dX8_walk_70 : decode cX8_walk 70 = .ok (.aload_n 0, 1) := by decide +kernel
theorem dX8_walk_71 : decode cX8_walk 71 = .ok (.iload_n 1, 1) := by decide +kernel
theorem dX8_walk_72 : decode cX8_walk 72 = .ok (.invokevirtual 158, 3) := by decide +kernel
theorem dX8_walk_75 : decode cX8_walk 75 = .ok (.iadd, 1) := by decide +kernel
theorem dX8_walk_76 : decode cX8_walk 76 = .ok (.istore_n 3, 1) := by decide +kernel
theorem dX8_walk_77 : decode cX8_walk 77 = .ok (.iinc 4 1, 3) := by decide +kernel
theorem dX8_walk_80 : decode cX8_walk 80 = .ok (.goto (-27), 3) := by decide +kernel
theorem dX8_walk_46 : decode cX8_walk 46 = .ok (.iconst (-1), 1) := by decide +kernel
theorem dX8_walk_47 : decode cX8_walk 47 = .ok (.ireturn, 1) := by decide +kernel
theorem dX8_pull_0 : decode cX8_pull 0 = .ok (.aload_n 0, 1) := by decide +kernel
theorem dX8_pull_1 : decode cX8_pull 1 = .ok (.getfield 68, 3) := by decide +kernel
theorem dX8_pull_4 : decode cX8_pull 4 = .ok (.ifCond .eq 24, 3) := by decide +kernel
theorem dX8_pull_28 : decode cX8_pull 28 = .ok (.iconst (-1), 1) := by decide +kernel
theorem dX8_pull_29 : decode cX8_pull 29 = .ok (.ireturn, 1) := by decide +kernel
theorem dX8_pull_7 : decode cX8_pull 7 = .ok (.aload_n 0, 1) := by decide +kernel
theorem dX8_pull_8 : decode cX8_pull 8 = .ok (.getfield 23, 3) := by decide +kernel
theorem dX8_pull_11 : decode cX8_pull 11 = .ok (.getfield 147, 3) := by decide +kernel
theorem dX8_pull_14 : decode cX8_pull 14 = .ok (.ifCond .eq 14, 3) := by decide +kernel
theorem dX8_pull_17 : decode cX8_pull 17 = .ok (.iload_n 1, 1) := by decide +kernel
theorem dX8_pull_18 : decode cX8_pull 18 = .ok (.iconst 0, 1) := by decide +kernel
theorem dX8_pull_19 : decode cX8_pull 19 = .ok (.sipush 999, 3) := by decide +kernel
theorem dX8_pull_22 : decode cX8_pull 22 = .ok (.invokestatic 150, 3) := by decide +kernel
theorem dX8_pull_25 : decode cX8_pull 25 = .ok (.ifCond .ne 5, 3) := by decide +kernel
theorem dX8_pull_30 : decode cX8_pull 30 = .ok (.aload_n 0, 1) := by decide +kernel
theorem dX8_pull_31 : decode cX8_pull 31 = .ok (.getfield 23, 3) := by decide +kernel
theorem dX8_pull_34 : decode cX8_pull 34 = .ok (.aload_n 0, 1) := by decide +kernel
theorem dX8_pull_35 : decode cX8_pull 35 = .ok (.getfield 60, 3) := by decide +kernel
theorem dX8_pull_38 : decode cX8_pull 38 = .ok (.getfield 181, 3) := by decide +kernel
theorem dX8_pull_41 : decode cX8_pull 41 = .ok (.iload_n 1, 1) := by decide +kernel
theorem dX8_pull_42 : decode cX8_pull 42 = .ok (.invokevirtual 193, 3) := by decide +kernel
theorem dX8_pull_45 : decode cX8_pull 45 = .ok (.ireturn, 1) := by decide +kernel
theorem dX8_bow_0 : decode cX8_bow 0 = .ok (.aload_n 0, 1) := by decide +kernel
theorem dX8_bow_1 : decode cX8_bow 1 = .ok (.getfield 68, 3) := by decide +kernel
theorem dX8_bow_4 : decode cX8_bow 4 = .ok (.ifCond .ne 5, 3) := by decide +kernel
theorem dX8_bow_9 : decode cX8_bow 9 = .ok (.iload_n 1, 1) := by decide +kernel
theorem dX8_bow_10 : decode cX8_bow 10 = .ok (.tableswitch 78 0 4 #[34, 42, 52, 62, 70], 34) := by decide +kernel
theorem dX8_bow_44 : decode cX8_bow 44 = .ok (.aload_n 0, 1) := by decide +kernel
theorem dX8_bow_45 : decode cX8_bow 45 = .ok (.getfield 23, 3) := by decide +kernel
theorem dX8_bow_48 : decode cX8_bow 48 = .ok (.getfield 147, 3) := by decide +kernel
theorem dX8_bow_51 : decode cX8_bow 51 = .ok (.ireturn, 1) := by decide +kernel
theorem dX8_bow_52 : decode cX8_bow 52 = .ok (.aload_n 0, 1) := by decide +kernel
theorem dX8_bow_53 : decode cX8_bow 53 = .ok (.getfield 23, 3) := by decide +kernel
theorem dX8_bow_56 : decode cX8_bow 56 = .ok (.getfield 197, 3) := by decide +kernel
theorem dX8_bow_59 : decode cX8_bow 59 = .ok (.iconst 0, 1) := by decide +kernel
theorem dX8_bow_60 : decode cX8_bow 60 = .ok (.iaload, 1) := by decide +kernel
theorem dX8_bow_61 : decode cX8_bow 61 = .ok (.ireturn, 1) := by decide +kernel
theorem dX8_bow_62 : decode cX8_bow 62 = .ok (.aload_n 0, 1) := by decide +kernel
theorem dX8_bow_63 : decode cX8_bow 63 = .ok (.getfield 23, 3) := by decide +kernel
theorem dX8_bow_66 : decode cX8_bow 66 = .ok (.getfield 197, 3) := by decide +kernel
theorem dX8_bow_69 : decode cX8_bow 69 = .ok (.iconst 1, 1) := by decide +kernel
theorem dX8_bow_70 : decode cX8_bow 70 = .ok (.iaload, 1) := by decide +kernel
theorem dX8_bow_71 : decode cX8_bow 71 = .ok (.ireturn, 1) := by decide +kernel
theorem dX8_bow_72 : decode cX8_bow 72 = .ok (.aload_n 0, 1) := by decide +kernel
theorem dX8_bow_73 : decode cX8_bow 73 = .ok (.getfield 23, 3) := by decide +kernel
theorem dX8_bow_76 : decode cX8_bow 76 = .ok (.getfield 154, 3) := by decide +kernel
theorem dX8_bow_79 : decode cX8_bow 79 = .ok (.ireturn, 1) := by decide +kernel
theorem dX8_bow_80 : decode cX8_bow 80 = .ok (.aload_n 0, 1) := by decide +kernel
theorem dX8_bow_81 : decode cX8_bow 81 = .ok (.getfield 23, 3) := by decide +kernel
theorem dX8_bow_84 : decode cX8_bow 84 = .ok (.getfield 200, 3) := by decide +kernel
theorem dX8_bow_87 : decode cX8_bow 87 = .ok (.ireturn, 1) := by decide +kernel
theorem dX8_bow_88 : decode cX8_bow 88 = .ok (.iload_n 1, 1) := by decide +kernel
theorem dX8_bow_89 : decode cX8_bow 89 = .ok (.bipush 10, 2) := by decide +kernel
theorem dX8_bow_91 : decode cX8_bow 91 = .ok (.bipush 9, 2) := by decide +kernel
theorem dX8_bow_93 : decode cX8_bow 93 = .ok (.aload_n 0, 1) := by decide +kernel
theorem dX8_bow_94 : decode cX8_bow 94 = .ok (.getfield 23, 3) := by decide +kernel
theorem dX8_bow_97 : decode cX8_bow 97 = .ok (.getfield 203, 3) := by decide +kernel
theorem dX8_bow_100 : decode cX8_bow 100 = .ok (.iadd, 1) := by decide +kernel
theorem dX8_bow_101 : decode cX8_bow 101 = .ok (.invokestatic 150, 3) := by decide +kernel
theorem dX8_bow_104 : decode cX8_bow 104 = .ok (.ifCond .eq 18, 3) := by decide +kernel
theorem dX8_bow_107 : decode cX8_bow 107 = .ok (.aload_n 0, 1) := by decide +kernel
theorem dX8_bow_108 : decode cX8_bow 108 = .ok (.getfield 23, 3) := by decide +kernel
theorem dX8_bow_111 : decode cX8_bow 111 = .ok (.getfield 205, 3) := by decide +kernel
theorem dX8_bow_114 : decode cX8_bow 114 = .ok (.iload_n 1, 1) := by decide +kernel
theorem dX8_bow_115 : decode cX8_bow 115 = .ok (.bipush 10, 2) := by decide +kernel
theorem dX8_bow_117 : decode cX8_bow 117 = .ok (.isub, 1) := by decide +kernel
theorem dX8_bow_118 : decode cX8_bow 118 = .ok (.iaload, 1) := by decide +kernel
theorem dX8_bow_119 : decode cX8_bow 119 = .ok (.goto 4, 3) := by decide +kernel
theorem dX8_bow_123 : decode cX8_bow 123 = .ok (.ireturn, 1) := by decide +kernel
theorem dX8_bow_122 : decode cX8_bow 122 = .ok (.iconst (-1), 1) := by decide +kernel
theorem dX8_bow_7 : decode cX8_bow 7 = .ok (.iconst (-1), 1) := by decide +kernel
theorem dX8_bow_8 : decode cX8_bow 8 = .ok (.ireturn, 1) := by decide +kernel
theorem dX8_holds_0 : decode cX8_holds 0 = .ok (.aload_n 0, 1) := by decide +kernel
theorem dX8_holds_1 : decode cX8_holds 1 = .ok (.iload_n 1, 1) := by decide +kernel
theorem dX8_holds_2 : decode cX8_holds 2 = .ok (.iload_n 2, 1) := by decide +kernel
theorem dX8_holds_3 : decode cX8_holds 3 = .ok (.iload_n 3, 1) := by decide +kernel
theorem dX8_holds_4 : decode cX8_holds 4 = .ok (.invokevirtual 208, 3) := by decide +kernel
theorem dX8_holds_7 : decode cX8_holds 7 = .ok (.ifCond .eq 21, 3) := by decide +kernel
theorem dX8_holds_10 : decode cX8_holds 10 = .ok (.iload 4, 2) := by decide +kernel
theorem dX8_holds_12 : decode cX8_holds 12 = .ok (.iconst 0, 1) := by decide +kernel
theorem dX8_holds_13 : decode cX8_holds 13 = .ok (.aload_n 0, 1) := by decide +kernel
theorem dX8_holds_14 : decode cX8_holds 14 = .ok (.getfield 60, 3) := by decide +kernel
theorem dX8_holds_17 : decode cX8_holds 17 = .ok (.invokevirtual 211, 3) := by decide +kernel
theorem dX8_holds_20 : decode cX8_holds 20 = .ok (.iconst 1, 1) := by decide +kernel
theorem dX8_holds_21 : decode cX8_holds 21 = .ok (.isub, 1) := by decide +kernel
theorem dX8_holds_22 : decode cX8_holds 22 = .ok (.invokestatic 150, 3) := by decide +kernel
theorem dX8_holds_25 : decode cX8_holds 25 = .ok (.ifCond .ne 5, 3) := by decide +kernel
theorem dX8_holds_30 : decode cX8_holds 30 = .ok (.aload_n 0, 1) := by decide +kernel
theorem dX8_holds_31 : decode cX8_holds 31 = .ok (.iload_n 1, 1) := by decide +kernel
theorem dX8_holds_32 : decode cX8_holds 32 = .ok (.iload_n 2, 1) := by decide +kernel
theorem dX8_holds_33 : decode cX8_holds 33 = .ok (.iload_n 3, 1) := by decide +kernel
theorem dX8_holds_34 : decode cX8_holds 34 = .ok (.iload 4, 2) := by decide +kernel
theorem dX8_holds_36 : decode cX8_holds 36 = .ok (.invokevirtual 215, 3) := by decide +kernel
theorem dX8_holds_39 : decode cX8_holds 39 = .ok (.aload_n 0, 1) := by decide +kernel
theorem dX8_holds_40 : decode cX8_holds 40 = .ok (.getfield 30, 3) := by decide +kernel
theorem dX8_holds_43 : decode cX8_holds 43 = .ok (.aload_n 0, 1) := by decide +kernel
theorem dX8_holds_44 : decode cX8_holds 44 = .ok (.getfield 60, 3) := by decide +kernel
theorem dX8_holds_47 : decode cX8_holds 47 = .ok (.invokevirtual 219, 3) := by decide +kernel
theorem dX8_holds_50 : decode cX8_holds 50 = .ok (.ireturn, 1) := by decide +kernel
theorem dX8_holds_28 : decode cX8_holds 28 = .ok (.iconst (-1), 1) := by decide +kernel
theorem dX8_holds_29 : decode cX8_holds 29 = .ok (.ireturn, 1) := by decide +kernel
theorem dX8_begins_0 : decode cX8_begins 0 = .ok (.aload_n 0, 1) := by decide +kernel
theorem dX8_begins_1 : decode cX8_begins 1 = .ok (.iload_n 1, 1) := by decide +kernel
theorem dX8_begins_2 : decode cX8_begins 2 = .ok (.iload_n 2, 1) := by decide +kernel
theorem dX8_begins_3 : decode cX8_begins 3 = .ok (.iload_n 3, 1) := by decide +kernel
theorem dX8_begins_4 : decode cX8_begins 4 = .ok (.invokevirtual 208, 3) := by decide +kernel
theorem dX8_begins_7 : decode cX8_begins 7 = .ok (.ifCond .ne 5, 3) := by decide +kernel
theorem dX8_begins_12 : decode cX8_begins 12 = .ok (.aload_n 0, 1) := by decide +kernel
theorem dX8_begins_13 : decode cX8_begins 13 = .ok (.iload_n 1, 1) := by decide +kernel
theorem dX8_begins_14 : decode cX8_begins 14 = .ok (.iload_n 2, 1) := by decide +kernel
theorem dX8_begins_15 : decode cX8_begins 15 = .ok (.iload_n 3, 1) := by decide +kernel
theorem dX8_begins_16 : decode cX8_begins 16 = .ok (.iconst 0, 1) := by decide +kernel
theorem dX8_begins_17 : decode cX8_begins 17 = .ok (.invokevirtual 215, 3) := by decide +kernel
theorem dX8_begins_20 : decode cX8_begins 20 = .ok (.aload_n 0, 1) := by decide +kernel
theorem dX8_begins_21 : decode cX8_begins 21 = .ok (.getfield 30, 3) := by decide +kernel
theorem dX8_begins_24 : decode cX8_begins 24 = .ok (.aload_n 0, 1) := by decide +kernel
theorem dX8_begins_25 : decode cX8_begins 25 = .ok (.getfield 60, 3) := by decide +kernel
theorem dX8_begins_28 : decode cX8_begins 28 = .ok (.invokevirtual 223, 3) := by decide +kernel
theorem dX8_begins_31 : decode cX8_begins 31 = .ok (.ireturn, 1) := by decide +kernel
theorem dX8_begins_10 : decode cX8_begins 10 = .ok (.iconst (-1), 1) := by decide +kernel
theorem dX8_begins_11 : decode cX8_begins 11 = .ok (.ireturn, 1) := by decide +kernel
theorem dX8_alone_0 : decode cX8_alone 0 = .ok (.aload_n 0, 1) := by decide +kernel
theorem dX8_alone_1 : decode cX8_alone 1 = .ok (.iload_n 1, 1) := by decide +kernel
theorem dX8_alone_2 : decode cX8_alone 2 = .ok (.iload_n 2, 1) := by decide +kernel
theorem dX8_alone_3 : decode cX8_alone 3 = .ok (.iload_n 3, 1) := by decide +kernel
theorem dX8_alone_4 : decode cX8_alone 4 = .ok (.invokevirtual 208, 3) := by decide +kernel
theorem dX8_alone_7 : decode cX8_alone 7 = .ok (.ifCond .eq 13, 3) := by decide +kernel
theorem dX8_alone_10 : decode cX8_alone 10 = .ok (.iload 4, 2) := by decide +kernel
theorem dX8_alone_12 : decode cX8_alone 12 = .ok (.iconst 0, 1) := by decide +kernel
theorem dX8_alone_13 : decode cX8_alone 13 = .ok (.iconst 1, 1) := by decide +kernel
theorem dX8_alone_14 : decode cX8_alone 14 = .ok (.invokestatic 150, 3) := by decide +kernel
theorem dX8_alone_17 : decode cX8_alone 17 = .ok (.ifCond .ne 5, 3) := by decide +kernel
theorem dX8_alone_22 : decode cX8_alone 22 = .ok (.aload_n 0, 1) := by decide +kernel
theorem dX8_alone_23 : decode cX8_alone 23 = .ok (.iload_n 1, 1) := by decide +kernel
theorem dX8_alone_24 : decode cX8_alone 24 = .ok (.iload_n 2, 1) := by decide +kernel
theorem dX8_alone_25 : decode cX8_alone 25 = .ok (.iload_n 3, 1) := by decide +kernel
theorem dX8_alone_26 : decode cX8_alone 26 = .ok (.iconst 0, 1) := by decide +kernel
theorem dX8_alone_27 : decode cX8_alone 27 = .ok (.invokevirtual 215, 3) := by decide +kernel
theorem dX8_alone_30 : decode cX8_alone 30 = .ok (.aload_n 0, 1) := by decide +kernel
theorem dX8_alone_31 : decode cX8_alone 31 = .ok (.getfield 30, 3) := by decide +kernel
theorem dX8_alone_34 : decode cX8_alone 34 = .ok (.iload 4, 2) := by decide +kernel
theorem dX8_alone_36 : decode cX8_alone 36 = .ok (.ifCond .ne 13, 3) := by decide +kernel
theorem dX8_alone_49 : decode cX8_alone 49 = .ok (.aload_n 0, 1) := by decide +kernel
theorem dX8_alone_50 : decode cX8_alone 50 = .ok (.getfield 30, 3) := by decide +kernel
theorem dX8_alone_53 : decode cX8_alone 53 = .ok (.getfield 228, 3) := by decide +kernel
theorem dX8_alone_56 : decode cX8_alone 56 = .ok (.bipush 99, 2) := by decide +kernel
theorem dX8_alone_58 : decode cX8_alone 58 = .ok (.invokevirtual 230, 3) := by decide +kernel
theorem dX8_alone_61 : decode cX8_alone 61 = .ok (.aload_n 0, 1) := by decide +kernel
theorem dX8_alone_62 : decode cX8_alone 62 = .ok (.getfield 30, 3) := by decide +kernel
theorem dX8_alone_65 : decode cX8_alone 65 = .ok (.aload_n 0, 1) := by decide +kernel
theorem dX8_alone_66 : decode cX8_alone 66 = .ok (.getfield 60, 3) := by decide +kernel
theorem dX8_alone_69 : decode cX8_alone 69 = .ok (.invokevirtual 219, 3) := by decide +kernel
theorem dX8_alone_72 : decode cX8_alone 72 = .ok (.ireturn, 1) := by decide +kernel
theorem dX8_alone_39 : decode cX8_alone 39 = .ok (.aload_n 0, 1) := by decide +kernel
theorem dX8_alone_40 : decode cX8_alone 40 = .ok (.getfield 30, 3) := by decide +kernel
theorem dX8_alone_43 : decode cX8_alone 43 = .ok (.getfield 226, 3) := by decide +kernel
theorem dX8_alone_46 : decode cX8_alone 46 = .ok (.goto 10, 3) := by decide +kernel
theorem dX8_alone_20 : decode cX8_alone 20 = .ok (.iconst (-1), 1) := by decide +kernel
theorem dX8_alone_21 : decode cX8_alone 21 = .ok (.ireturn, 1) := by decide +kernel
theorem dX8_undone_0 : decode cX8_undone 0 = .ok (.aload_n 0, 1) := by decide +kernel
theorem dX8_undone_1 : decode cX8_undone 1 = .ok (.getfield 60, 3) := by decide +kernel
theorem dX8_undone_4 : decode cX8_undone 4 = .ok (.iconst 0, 1) := by decide +kernel
theorem dX8_undone_5 : decode cX8_undone 5 = .ok (.iload_n 1, 1) := by decide +kernel
theorem dX8_undone_6 : decode cX8_undone 6 = .ok (.invokevirtual 104, 3) := by decide +kernel
theorem dX8_undone_9 : decode cX8_undone 9 = .ok (.ifCond .eq 15, 3) := by decide +kernel
theorem dX8_undone_12 : decode cX8_undone 12 = .ok (.aload_n 0, 1) := by decide +kernel
theorem dX8_undone_13 : decode cX8_undone 13 = .ok (.getfield 60, 3) := by decide +kernel
theorem dX8_undone_16 : decode cX8_undone 16 = .ok (.iconst 1, 1) := by decide +kernel
theorem dX8_undone_17 : decode cX8_undone 17 = .ok (.iload_n 2, 1) := by decide +kernel
theorem dX8_undone_18 : decode cX8_undone 18 = .ok (.invokevirtual 104, 3) := by decide +kernel
theorem dX8_undone_21 : decode cX8_undone 21 = .ok (.ifCond .ne 5, 3) := by decide +kernel
theorem dX8_undone_26 : decode cX8_undone 26 = .ok (.aload_n 0, 1) := by decide +kernel
theorem dX8_undone_27 : decode cX8_undone 27 = .ok (.iload_n 1, 1) := by decide +kernel
theorem dX8_undone_28 : decode cX8_undone 28 = .ok (.iload_n 2, 1) := by decide +kernel
theorem dX8_undone_29 : decode cX8_undone 29 = .ok (.invokevirtual 234, 3) := by decide +kernel
theorem dX8_undone_32 : decode cX8_undone 32 = .ok (.aload_n 0, 1) := by decide +kernel
theorem dX8_undone_33 : decode cX8_undone 33 = .ok (.getfield 30, 3) := by decide +kernel
theorem dX8_undone_36 : decode cX8_undone 36 = .ok (.aload_n 0, 1) := by decide +kernel
theorem dX8_undone_37 : decode cX8_undone 37 = .ok (.getfield 60, 3) := by decide +kernel
theorem dX8_undone_40 : decode cX8_undone 40 = .ok (.invokevirtual 237, 3) := by decide +kernel
theorem dX8_undone_43 : decode cX8_undone 43 = .ok (.ireturn, 1) := by decide +kernel
theorem dX8_undone_24 : decode cX8_undone 24 = .ok (.iconst (-1), 1) := by decide +kernel
theorem dX8_undone_25 : decode cX8_undone 25 = .ok (.ireturn, 1) := by decide +kernel
