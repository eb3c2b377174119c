theorem dX8_putBytes_0 : decode cX8_putBytes 0 = .ok (.bipush 24, 2) := by decide +kernel
theorem dX8_putBytes_2 : decode cX8_putBytes 2 = .ok (.istore_n 2, 1) := by decide +kernel
theorem dX8_putBytes_3 : decode cX8_putBytes 3 = .ok (.iload_n 2, 1) := by decide +kernel
theorem dX8_putBytes_4 : decode cX8_putBytes 4 = .ok (.ifCond .lt 42, 3) := by decide +kernel
theorem dX8_putBytes_7 : decode cX8_putBytes 7 = .ok (.aload_n 0, 1) := by decide +kernel
theorem dX8_putBytes_8 : decode cX8_putBytes 8 = .ok (.getfield 64, 3) := by decide +kernel
theorem dX8_putBytes_11 : decode cX8_putBytes 11 = .ok (.sipush 1600, 3) := by decide +kernel
theorem dX8_putBytes_14 : decode cX8_putBytes 14 = .ok (.if_icmp .ge 32, 3) := by decide +kernel
theorem dX8_putBytes_17 : decode cX8_putBytes 17 = .ok (.aload_n 0, 1) := by decide +kernel
theorem dX8_putBytes_18 : decode cX8_putBytes 18 = .ok (.getfield 9, 3) := by decide +kernel
theorem dX8_putBytes_21 : decode cX8_putBytes 21 = .ok (.aload_n 0, 1) := by decide +kernel
theorem dX8_putBytes_22 : decode cX8_putBytes 22 = .ok (.getfield 64, 3) := by decide +kernel
theorem dX8_putBytes_25 : decode cX8_putBytes 25 = .ok (.iload_n 1, 1) := by decide +kernel
theorem dX8_putBytes_26 : decode cX8_putBytes 26 = .ok (.iload_n 2, 1) := by decide +kernel
theorem dX8_putBytes_27 : decode cX8_putBytes 27 = .ok (.iushr, 1) := by decide +kernel
theorem dX8_putBytes_28 : decode cX8_putBytes 28 = .ok (.i2b, 1) := by decide +kernel
theorem dX8_putBytes_29 : decode cX8_putBytes 29 = .ok (.bastore, 1) := by decide +kernel
theorem dX8_putBytes_30 : decode cX8_putBytes 30 = .ok (.aload_n 0, 1) := by decide +kernel
theorem dX8_putBytes_31 : decode cX8_putBytes 31 = .ok (.dup, 1) := by decide +kernel
theorem dX8_putBytes_32 : decode cX8_putBytes 32 = .ok (.getfield 64, 3) := by decide +kernel
theorem dX8_putBytes_35 : decode cX8_putBytes 35 = .ok (.iconst 1, 1) := by decide +kernel
theorem dX8_putBytes_36 : decode cX8_putBytes 36 = .ok (.iadd, 1) := by decide +kernel
theorem dX8_putBytes_37 : decode cX8_putBytes 37 = .ok (.putfield 64, 3) := by decide +kernel
theorem dX8_putBytes_40 : decode cX8_putBytes 40 = .ok (.iinc 2 (-8), 3) := by decide +kernel
theorem dX8_putBytes_43 : decode cX8_putBytes 43 = .ok (.goto (-40), 3) := by decide +kernel
theorem dX8_putBytes_46 : decode cX8_putBytes 46 = .ok (.return_, 1) := by decide +kernel
theorem dX8_feed_0 : decode cX8_feed 0 = .ok (.aload_n 0, 1) := by decide +kernel
theorem dX8_feed_1 : decode cX8_feed 1 = .ok (.getfield 64, 3) := by decide +kernel
theorem dX8_feed_4 : decode cX8_feed 4 = .ok (.bipush 20, 2) := by decide +kernel
theorem dX8_feed_6 : decode cX8_feed 6 = .ok (.iadd, 1) := by decide +kernel
theorem dX8_feed_7 : decode cX8_feed 7 = .ok (.sipush 1600, 3) := by decide +kernel
theorem dX8_feed_10 : decode cX8_feed 10 = .ok (.if_icmp .le 5, 3) := by decide +kernel
theorem dX8_feed_15 : decode cX8_feed 15 = .ok (.aload_n 0, 1) := by decide +kernel
theorem dX8_feed_16 : decode cX8_feed 16 = .ok (.iload_n 1, 1) := by decide +kernel
theorem dX8_feed_17 : decode cX8_feed 17 = .ok (.invokevirtual 79, 3) := by decide +kernel
theorem dX8_feed_20 : decode cX8_feed 20 = .ok (.aload_n 0, 1) := by decide +kernel
theorem dX8_feed_21 : decode cX8_feed 21 = .ok (.iload_n 2, 1) := by decide +kernel
theorem dX8_feed_22 : decode cX8_feed 22 = .ok (.invokevirtual 79, 3) := by decide +kernel
theorem dX8_feed_25 : decode cX8_feed 25 = .ok (.aload_n 0, 1) := by decide +kernel
theorem dX8_feed_26 : decode cX8_feed 26 = .ok (.iload_n 3, 1) := by decide +kernel
theorem dX8_feed_27 : decode cX8_feed 27 = .ok (.invokevirtual 79, 3) := by decide +kernel
theorem dX8_feed_30 : decode cX8_feed 30 = .ok (.aload_n 0, 1) := by decide +kernel
theorem dX8_feed_31 : decode cX8_feed 31 = .ok (.iload 4, 2) := by decide +kernel
theorem dX8_feed_33 : decode cX8_feed 33 = .ok (.invokevirtual 79, 3) := by decide +kernel
theorem dX8_feed_36 : decode cX8_feed 36 = .ok (.aload_n 0, 1) := by decide +kernel
theorem dX8_feed_37 : decode cX8_feed 37 = .ok (.iload 5, 2) := by decide +kernel
theorem dX8_feed_39 : decode cX8_feed 39 = .ok (.invokevirtual 79, 3) := by decide +kernel
theorem dX8_feed_42 : decode cX8_feed 42 = .ok (.aload_n 0, 1) := by decide +kernel
theorem dX8_feed_43 : decode cX8_feed 43 = .ok (.getfield 64, 3) := by decide +kernel
theorem dX8_feed_46 : decode cX8_feed 46 = .ok (.ireturn, 1) := by decide +kernel
theorem dX3_clear_0 : decode cX3_clear 0 = .ok (.aload_n 0, 1) := by decide +kernel
theorem dX3_clear_1 : decode cX3_clear 1 = .ok (.iconst 0, 1) := by decide +kernel
theorem dX3_clear_2 : decode cX3_clear 2 = .ok (.putfield 21, 3) := by decide +kernel
theorem dX3_clear_5 : decode cX3_clear 5 = .ok (.aload_n 0, 1) := by decide +kernel
theorem dX3_clear_6 : decode cX3_clear 6 = .ok (.iconst 0, 1) := by decide +kernel
theorem dX3_clear_7 : decode cX3_clear 7 = .ok (.putfield 25, 3) := by decide +kernel
theorem dX3_clear_10 : decode cX3_clear 10 = .ok (.aload_n 0, 1) := by decide +kernel
theorem dX3_clear_11 : decode cX3_clear 11 = .ok (.iconst 0, 1) := by decide +kernel
theorem dX3_clear_12 : decode cX3_clear 12 = .ok (.putfield 28, 3) := by decide +kernel
theorem dX3_clear_15 : decode cX3_clear 15 = .ok (.return_, 1) := by decide +kernel
theorem dX5_clear_0 : decode cX5_clear 0 = .ok (.iconst 0, 1) := by decide +kernel
theorem dX5_clear_1 : decode cX5_clear 1 = .ok (.istore_n 1, 1) := by decide +kernel
theorem dX5_clear_2 : decode cX5_clear 2 = .ok (.iload_n 1, 1) := by decide +kernel
theorem dX5_clear_3 : decode cX5_clear 3 = .ok (.iconst 5, 1) := by decide +kernel
theorem dX5_clear_4 : decode cX5_clear 4 = .ok (.if_icmp .ge 16, 3) := by decide +kernel
theorem dX5_clear_7 : decode cX5_clear 7 = .ok (.aload_n 0, 1) := by decide +kernel
theorem dX5_clear_8 : decode cX5_clear 8 = .ok (.getfield 9, 3) := by decide +kernel
theorem dX5_clear_11 : decode cX5_clear 11 = .ok (.iload_n 1, 1) := by decide +kernel
theorem dX5_clear_12 : decode cX5_clear 12 = .ok (.iconst 0, 1) := by decide +kernel
theorem dX5_clear_13 : decode cX5_clear 13 = .ok (.iastore, 1) := by decide +kernel
theorem dX5_clear_14 : decode cX5_clear 14 = .ok (.iinc 1 1, 3) := by decide +kernel
theorem dX5_clear_17 : decode cX5_clear 17 = .ok (.goto (-15), 3) := by decide +kernel
theorem dX5_clear_20 : decode cX5_clear 20 = .ok (.aload_n 0, 1) := by decide +kernel
theorem dX5_clear_21 : decode cX5_clear 21 = .ok (.getfield 53, 3) := by decide +kernel
theorem dX5_clear_24 : decode cX5_clear 24 = .ok (.invokevirtual 64, 3) := by decide +kernel
theorem dX5_clear_27 : decode cX5_clear 27 = .ok (.aload_n 0, 1) := by decide +kernel
theorem dX5_clear_28 : decode cX5_clear 28 = .ok (.getfield 57, 3) := by decide +kernel
theorem dX5_clear_31 : decode cX5_clear 31 = .ok (.iconst 0, 1) := by decide +kernel
theorem dX5_clear_32 : decode cX5_clear 32 = .ok (.bipush 100, 2) := by decide +kernel
theorem dX5_clear_34 : decode cX5_clear 34 = .ok (.iastore, 1) := by decide +kernel
theorem dX5_clear_35 : decode cX5_clear 35 = .ok (.aload_n 0, 1) := by decide +kernel
theorem dX5_clear_36 : decode cX5_clear 36 = .ok (.getfield 57, 3) := by decide +kernel
theorem dX5_clear_39 : decode cX5_clear 39 = .ok (.iconst 1, 1) := by decide +kernel
theorem dX5_clear_40 : decode cX5_clear 40 = .ok (.iconst 0, 1) := by decide +kernel
theorem dX5_clear_41 : decode cX5_clear 41 = .ok (.iastore, 1) := by decide +kernel
theorem dX5_clear_42 : decode cX5_clear 42 = .ok (.aload_n 0, 1) := by decide +kernel
theorem dX5_clear_43 : decode cX5_clear 43 = .ok (.getfield 60, 3) := by decide +kernel
theorem dX5_clear_46 : decode cX5_clear 46 = .ok (.iconst 0, 1) := by decide +kernel
theorem dX5_clear_47 : decode cX5_clear 47 = .ok (.iconst 0, 1) := by decide +kernel
theorem dX5_clear_48 : decode cX5_clear 48 = .ok (.bastore, 1) := by decide +kernel
theorem dX5_clear_49 : decode cX5_clear 49 = .ok (.aload_n 0, 1) := by decide +kernel
theorem dX5_clear_50 : decode cX5_clear 50 = .ok (.getfield 60, 3) := by decide +kernel
theorem dX5_clear_53 : decode cX5_clear 53 = .ok (.iconst 1, 1) := by decide +kernel
theorem dX5_clear_54 : decode cX5_clear 54 = .ok (.iconst 0, 1) := by decide +kernel
theorem dX5_clear_55 : decode cX5_clear 55 = .ok (.bastore, 1) := by decide +kernel
theorem dX5_clear_56 : decode cX5_clear 56 = .ok (.return_, 1) := by decide +kernel
theorem dX4_step_0 : decode cX4_step 0 = .ok (.aload_n 0, 1) := by decide +kernel
theorem dX4_step_1 : decode cX4_step 1 = .ok (.getfield 25, 3) := by decide +kernel
theorem dX4_step_4 : decode cX4_step 4 = .ok (.aload_n 0, 1) := by decide +kernel
theorem dX4_step_5 : decode cX4_step 5 = .ok (.getfield 21, 3) := by decide +kernel
theorem dX4_step_8 : decode cX4_step 8 = .ok (.if_icmp .ge 31, 3) := by decide +kernel
theorem dX4_step_39 : decode cX4_step 39 = .ok (.aload_n 0, 1) := by decide +kernel
theorem dX4_step_40 : decode cX4_step 40 = .ok (.aload_n 0, 1) := by decide +kernel
theorem dX4_step_41 : decode cX4_step 41 = .ok (.getfield 25, 3) := by decide +kernel
theorem dX4_step_44 : decode cX4_step 44 = .ok (.putfield 31, 3) := by decide +kernel
theorem dX4_step_47 : decode cX4_step 47 = .ok (.aload_n 0, 1) := by decide +kernel
theorem dX4_step_48 : decode cX4_step 48 = .ok (.getfield 25, 3) := by decide +kernel
theorem dX4_step_51 : decode cX4_step 51 = .ok (.aload_n 0, 1) := by decide +kernel
theorem dX4_step_52 : decode cX4_step 52 = .ok (.getfield 21, 3) := by decide +kernel
theorem dX4_step_55 : decode cX4_step 55 = .ok (.if_icmp .lt 11, 3) := by decide +kernel
theorem dX4_step_58 : decode cX4_step 58 = .ok (.aload_n 0, 1) := by decide +kernel
theorem dX4_step_59 : decode cX4_step 59 = .ok (.iconst 0, 1) := by decide +kernel
theorem dX4_step_60 : decode cX4_step 60 = .ok (.putfield 28, 3) := by decide +kernel
theorem dX4_step_63 : decode cX4_step 63 = .ok (.goto 93, 3) := by decide +kernel
theorem dX4_step_156 : decode cX4_step 156 = .ok (.return_, 1) := by decide +kernel
theorem dX3_put_0 : decode cX3_put 0 = .ok (.aload_n 0, 1) := by decide +kernel
theorem dX3_put_1 : decode cX3_put 1 = .ok (.getfield 21, 3) := by decide +kernel
theorem dX3_put_4 : decode cX3_put 4 = .ok (.sipush 600, 3) := by decide +kernel
theorem dX3_put_7 : decode cX3_put 7 = .ok (.if_icmp .lt 5, 3) := by decide +kernel
theorem dX3_put_12 : decode cX3_put 12 = .ok (.aload_n 0, 1) := by decide +kernel
theorem dX3_put_13 : decode cX3_put 13 = .ok (.getfield 9, 3) := by decide +kernel
theorem dX3_put_16 : decode cX3_put 16 = .ok (.aload_n 0, 1) := by decide +kernel
theorem dX3_put_17 : decode cX3_put 17 = .ok (.getfield 21, 3) := by decide +kernel
theorem dX3_put_20 : decode cX3_put 20 = .ok (.iload_n 1, 1) := by decide +kernel
theorem dX3_put_21 : decode cX3_put 21 = .ok (.iastore, 1) := by decide +kernel
theorem dX3_put_22 : decode cX3_put 22 = .ok (.aload_n 0, 1) := by decide +kernel
theorem dX3_put_23 : decode cX3_put 23 = .ok (.dup, 1) := by decide +kernel
theorem dX3_put_24 : decode cX3_put 24 = .ok (.getfield 21, 3) := by decide +kernel
theorem dX3_put_27 : decode cX3_put 27 = .ok (.iconst 1, 1) := by decide +kernel
theorem dX3_put_28 : decode cX3_put 28 = .ok (.iadd, 1) := by decide +kernel
theorem dX3_put_29 : decode cX3_put 29 = .ok (.putfield 21, 3) := by decide +kernel
theorem dX3_put_32 : decode cX3_put 32 = .ok (.iconst 1, 1) := by decide +kernel
theorem dX3_put_33 : decode cX3_put 33 = .ok (.ireturn, 1) := by decide +kernel
theorem dX3_endRow_0 : decode cX3_endRow 0 = .ok (.aload_n 0, 1) := by decide +kernel
theorem dX3_endRow_1 : decode cX3_endRow 1 = .ok (.getfield 25, 3) := by decide +kernel
theorem dX3_endRow_4 : decode cX3_endRow 4 = .ok (.aload_n 0, 1) := by decide +kernel
theorem dX3_endRow_5 : decode cX3_endRow 5 = .ok (.getfield 15, 3) := by decide +kernel
theorem dX3_endRow_8 : decode cX3_endRow 8 = .ok (.arraylength, 1) := by decide +kernel
theorem dX3_endRow_9 : decode cX3_endRow 9 = .ok (.if_icmp .lt 5, 3) := by decide +kernel
theorem dX3_endRow_14 : decode cX3_endRow 14 = .ok (.aload_n 0, 1) := by decide +kernel
theorem dX3_endRow_15 : decode cX3_endRow 15 = .ok (.getfield 15, 3) := by decide +kernel
theorem dX3_endRow_18 : decode cX3_endRow 18 = .ok (.aload_n 0, 1) := by decide +kernel
theorem dX3_endRow_19 : decode cX3_endRow 19 = .ok (.getfield 25, 3) := by decide +kernel
theorem dX3_endRow_22 : decode cX3_endRow 22 = .ok (.aload_n 0, 1) := by decide +kernel
theorem dX3_endRow_23 : decode cX3_endRow 23 = .ok (.getfield 21, 3) := by decide +kernel
theorem dX3_endRow_26 : decode cX3_endRow 26 = .ok (.iastore, 1) := by decide +kernel
theorem dX3_endRow_27 : decode cX3_endRow 27 = .ok (.aload_n 0, 1) := by decide +kernel
theorem dX3_endRow_28 : decode cX3_endRow 28 = .ok (.dup, 1) := by decide +kernel
theorem dX3_endRow_29 : decode cX3_endRow 29 = .ok (.getfield 25, 3) := by decide +kernel
theorem dX3_endRow_32 : decode cX3_endRow 32 = .ok (.iconst 1, 1) := by decide +kernel
theorem dX3_endRow_33 : decode cX3_endRow 33 = .ok (.iadd, 1) := by decide +kernel
theorem dX3_endRow_34 : decode cX3_endRow 34 = .ok (.putfield 25, 3) := by decide +kernel
theorem dX3_endRow_37 : decode cX3_endRow 37 = .ok (.iconst 1, 1) := by decide +kernel
theorem dX3_endRow_38 : decode cX3_endRow 38 = .ok (.ireturn, 1) := by decide +kernel
theorem dX3_putUntold_0 : decode cX3_putUntold 0 = .ok (.iconst 0, 1) := by decide +kernel
theorem dX3_putUntold_1 : decode cX3_putUntold 1 = .ok (.istore_n 1, 1) := by decide +kernel
theorem dX3_putUntold_2 : decode cX3_putUntold 2 = .ok (.iload_n 1, 1) := by decide +kernel
theorem dX3_putUntold_3 : decode cX3_putUntold 3 = .ok (.getstatic 31, 3) := by decide +kernel
theorem dX3_putUntold_6 : decode cX3_putUntold 6 = .ok (.arraylength, 1) := by decide +kernel
theorem dX3_putUntold_7 : decode cX3_putUntold 7 = .ok (.if_icmp .ge 19, 3) := by decide +kernel
theorem dX3_putUntold_10 : decode cX3_putUntold 10 = .ok (.aload_n 0, 1) := by decide +kernel
theorem dX3_putUntold_11 : decode cX3_putUntold 11 = .ok (.getstatic 31, 3) := by decide +kernel
theorem dX3_putUntold_14 : decode cX3_putUntold 14 = .ok (.iload_n 1, 1) := by decide +kernel
theorem dX3_putUntold_15 : decode cX3_putUntold 15 = .ok (.iaload, 1) := by decide +kernel
theorem dX3_putUntold_16 : decode cX3_putUntold 16 = .ok (.invokevirtual 34, 3) := by decide +kernel
theorem dX3_putUntold_19 : decode cX3_putUntold 19 = .ok (.pop, 1) := by decide +kernel
theorem dX3_putUntold_20 : decode cX3_putUntold 20 = .ok (.iinc 1 1, 3) := by decide +kernel
theorem dX3_putUntold_23 : decode cX3_putUntold 23 = .ok (.goto (-21), 3) := by decide +kernel
theorem dX3_putUntold_26 : decode cX3_putUntold 26 = .ok (.aload_n 0, 1) := by decide +kernel
theorem dX3_putUntold_27 : decode cX3_putUntold 27 = .ok (.invokevirtual 38, 3) := by decide +kernel
theorem dX3_putUntold_30 : decode cX3_putUntold 30 = .ok (.pop, 1) := by decide +kernel
theorem dX3_putUntold_31 : decode cX3_putUntold 31 = .ok (.iconst 0, 1) := by decide +kernel
theorem dX3_putUntold_32 : decode cX3_putUntold 32 = .ok (.istore_n 1, 1) := by decide +kernel
theorem dX3_putUntold_33 : decode cX3_putUntold 33 = .ok (.iload_n 1, 1) := by decide +kernel
theorem dX3_putUntold_34 : decode cX3_putUntold 34 = .ok (.getstatic 42, 3) := by decide +kernel
theorem dX3_putUntold_37 : decode cX3_putUntold 37 = .ok (.arraylength, 1) := by decide +kernel
theorem dX3_putUntold_38 : decode cX3_putUntold 38 = .ok (.if_icmp .ge 19, 3) := by decide +kernel
theorem dX3_putUntold_41 : decode cX3_putUntold 41 = .ok (.aload_n 0, 1) := by decide +kernel
theorem dX3_putUntold_42 : decode cX3_putUntold 42 = .ok (.getstatic 42, 3) := by decide +kernel
theorem dX3_putUntold_45 : decode cX3_putUntold 45 = .ok (.iload_n 1, 1) := by decide +kernel
theorem dX3_putUntold_46 : decode cX3_putUntold 46 = .ok (.iaload, 1) := by decide +kernel
theorem dX3_putUntold_47 : decode cX3_putUntold 47 = .ok (.invokevirtual 34, 3) := by decide +kernel
theorem dX3_putUntold_50 : decode cX3_putUntold 50 = .ok (.pop, 1) := by decide +kernel
theorem dX3_putUntold_51 : decode cX3_putUntold 51 = .ok (.iinc 1 1, 3) := by decide +kernel
theorem dX3_putUntold_54 : decode cX3_putUntold 54 = .ok (.goto (-21), 3) := by decide +kernel
theorem dX3_putUntold_57 : decode cX3_putUntold 57 = .ok (.aload_n 0, 1) := by decide +kernel
theorem dX3_putUntold_58 : decode cX3_putUntold 58 = .ok (.invokevirtual 38, 3) := by decide +kernel
theorem dX3_putUntold_61 : decode cX3_putUntold 61 = .ok (.pop, 1) := by decide +kernel
theorem dX3_putUntold_62 : decode cX3_putUntold 62 = .ok (.return_, 1) := by decide +kernel
theorem dX4_readShop_0 : decode cX4_readShop 0 = .ok (.aload_n 0, 1) := by decide +kernel
theorem dX4_readShop_1 : decode cX4_readShop 1 = .ok (.aload_n 1, 1) := by decide +kernel
theorem dX4_readShop_2 : decode cX4_readShop 2 = .ok (.putfield 17, 3) := by decide +kernel
theorem dX4_readShop_5 : decode cX4_readShop 5 = .ok (.aload_n 0, 1) := by decide +kernel
theorem dX4_readShop_6 : decode cX4_readShop 6 = .ok (.iload_n 2, 1) := by decide +kernel
theorem dX4_readShop_7 : decode cX4_readShop 7 = .ok (.aload_n 1, 1) := by decide +kernel
theorem dX4_readShop_8 : decode cX4_readShop 8 = .ok (.arraylength, 1) := by decide +kernel
theorem dX4_readShop_9 : decode cX4_readShop 9 = .ok (.invokestatic 69, 3) := by decide +kernel
theorem dX4_readShop_12 : decode cX4_readShop 12 = .ok (.putfield 21, 3) := by decide +kernel
theorem dX4_readShop_15 : decode cX4_readShop 15 = .ok (.aload_n 0, 1) := by decide +kernel
theorem dX4_readShop_16 : decode cX4_readShop 16 = .ok (.iconst 0, 1) := by decide +kernel
theorem dX4_readShop_17 : decode cX4_readShop 17 = .ok (.putfield 25, 3) := by decide +kernel
theorem dX4_readShop_20 : decode cX4_readShop 20 = .ok (.aload_n 0, 1) := by decide +kernel
theorem dX4_readShop_21 : decode cX4_readShop 21 = .ok (.iconst 0, 1) := by decide +kernel
theorem dX4_readShop_22 : decode cX4_readShop 22 = .ok (.putfield 48, 3) := by decide +kernel
theorem dX4_readShop_25 : decode cX4_readShop 25 = .ok (.aload_n 0, 1) := by decide +kernel
theorem dX4_readShop_26 : decode cX4_readShop 26 = .ok (.iconst (-1), 1) := by decide +kernel
theorem dX4_readShop_27 : decode cX4_readShop 27 = .ok (.putfield 51, 3) := by decide +kernel
theorem dX4_readShop_30 : decode cX4_readShop 30 = .ok (.aload_n 0, 1) := by decide +kernel
theorem dX4_readShop_31 : decode cX4_readShop 31 = .ok (.getfield 44, 3) := by decide +kernel
theorem dX4_readShop_34 : decode cX4_readShop 34 = .ok (.invokevirtual 75, 3) := by decide +kernel
theorem dX4_readShop_37 : decode cX4_readShop 37 = .ok (.aload_n 0, 1) := by decide +kernel
theorem dX4_readShop_38 : decode cX4_readShop 38 = .ok (.invokevirtual 78, 3) := by decide +kernel
theorem dX4_readShop_41 : decode cX4_readShop 41 = .ok (.iconst 0, 1) := by decide +kernel
theorem dX4_readShop_42 : decode cX4_readShop 42 = .ok (.istore_n 3, 1) := by decide +kernel
theorem dX4_readShop_43 : decode cX4_readShop 43 = .ok (.iload_n 3, 1) := by decide +kernel
theorem dX4_readShop_44 : decode cX4_readShop 44 = .ok (.aload_n 0, 1) := by decide +kernel
theorem dX4_readShop_45 : decode cX4_readShop 45 = .ok (.getfield 21, 3) := by decide +kernel
theorem dX4_readShop_48 : decode cX4_readShop 48 = .ok (.if_icmp .gt 25, 3) := by decide +kernel
theorem dX4_readShop_51 : decode cX4_readShop 51 = .ok (.aload_n 0, 1) := by decide +kernel
theorem dX4_readShop_52 : decode cX4_readShop 52 = .ok (.getfield 28, 3) := by decide +kernel
theorem dX4_readShop_55 : decode cX4_readShop 55 = .ok (.ifCond .eq 18, 3) := by decide +kernel
theorem dX4_readShop_73 : decode cX4_readShop 73 = .ok (.aload_n 0, 1) := by decide +kernel
theorem dX4_readShop_74 : decode cX4_readShop 74 = .ok (.getfield 44, 3) := by decide +kernel
theorem dX4_readShop_77 : decode cX4_readShop 77 = .ok (.getfield 85, 3) := by decide +kernel
theorem dX4_readShop_80 : decode cX4_readShop 80 = .ok (.iconst 3, 1) := by decide +kernel
theorem dX4_readShop_81 : decode cX4_readShop 81 = .ok (.iaload, 1) := by decide +kernel
theorem dX4_readShop_82 : decode cX4_readShop 82 = .ok (.ifCond .ne 13, 3) := by decide +kernel
theorem dX4_readShop_85 : decode cX4_readShop 85 = .ok (.aload_n 0, 1) := by decide +kernel
theorem dX4_readShop_86 : decode cX4_readShop 86 = .ok (.getfield 44, 3) := by decide +kernel
theorem dX4_readShop_89 : decode cX4_readShop 89 = .ok (.getfield 89, 3) := by decide +kernel
theorem dX4_readShop_92 : decode cX4_readShop 92 = .ok (.invokevirtual 93, 3) := by decide +kernel
theorem dX4_readShop_95 : decode cX4_readShop 95 = .ok (.iconst 1, 1) := by decide +kernel
theorem dX4_readShop_96 : decode cX4_readShop 96 = .ok (.ireturn, 1) := by decide +kernel
theorem dX8_shop_0 : decode cX8_shop 0 = .ok (.aload_n 0, 1) := by decide +kernel
theorem dX8_shop_1 : decode cX8_shop 1 = .ok (.getfield 16, 3) := by decide +kernel
theorem dX8_shop_4 : decode cX8_shop 4 = .ok (.aload_n 0, 1) := by decide +kernel
theorem dX8_shop_5 : decode cX8_shop 5 = .ok (.getfield 9, 3) := by decide +kernel
theorem dX8_shop_8 : decode cX8_shop 8 = .ok (.aload_n 0, 1) := by decide +kernel
theorem dX8_shop_9 : decode cX8_shop 9 = .ok (.getfield 64, 3) := by decide +kernel
theorem dX8_shop_12 : decode cX8_shop 12 = .ok (.invokevirtual 83, 3) := by decide +kernel
theorem dX8_shop_15 : decode cX8_shop 15 = .ok (.ifCond .ne 5, 3) := by decide +kernel
theorem dX8_shop_20 : decode cX8_shop 20 = .ok (.aload_n 0, 1) := by decide +kernel
theorem dX8_shop_21 : decode cX8_shop 21 = .ok (.getfield 60, 3) := by decide +kernel
theorem dX8_shop_24 : decode cX8_shop 24 = .ok (.astore_n 1, 1) := by decide +kernel
theorem dX8_shop_25 : decode cX8_shop 25 = .ok (.aload_n 0, 1) := by decide +kernel
theorem dX8_shop_26 : decode cX8_shop 26 = .ok (.aload_n 0, 1) := by decide +kernel
theorem dX8_shop_27 : decode cX8_shop 27 = .ok (.getfield 16, 3) := by decide +kernel
theorem dX8_shop_30 : decode cX8_shop 30 = .ok (.getfield 87, 3) := by decide +kernel
theorem dX8_shop_33 : decode cX8_shop 33 = .ok (.putfield 60, 3) := by decide +kernel
theorem dX8_shop_36 : decode cX8_shop 36 = .ok (.aload_n 0, 1) := by decide +kernel
theorem dX8_shop_37 : decode cX8_shop 37 = .ok (.getfield 16, 3) := by decide +kernel
theorem dX8_shop_40 : decode cX8_shop 40 = .ok (.aload_n 1, 1) := by decide +kernel
theorem dX8_shop_41 : decode cX8_shop 41 = .ok (.putfield 87, 3) := by decide +kernel
theorem dX8_shop_44 : decode cX8_shop 44 = .ok (.aload_n 0, 1) := by decide +kernel
theorem dX8_shop_45 : decode cX8_shop 45 = .ok (.iconst 0, 1) := by decide +kernel
theorem dX8_shop_46 : decode cX8_shop 46 = .ok (.putfield 64, 3) := by decide +kernel
theorem dX8_shop_49 : decode cX8_shop 49 = .ok (.aload_n 0, 1) := by decide +kernel
theorem dX8_shop_50 : decode cX8_shop 50 = .ok (.iconst 0, 1) := by decide +kernel
theorem dX8_shop_51 : decode cX8_shop 51 = .ok (.putfield 68, 3) := by decide +kernel
theorem dX8_shop_54 : decode cX8_shop 54 = .ok (.aload_n 0, 1) := by decide +kernel
theorem dX8_shop_55 : decode cX8_shop 55 = .ok (.getfield 37, 3) := by decide +kernel
theorem dX8_shop_58 : decode cX8_shop 58 = .ok (.iconst 0, 1) := by decide +kernel
theorem dX8_shop_59 : decode cX8_shop 59 = .ok (.putfield 90, 3) := by decide +kernel
theorem dX8_shop_62 : decode cX8_shop 62 = .ok (.iconst 0, 1) := by decide +kernel
theorem dX8_shop_63 : decode cX8_shop 63 = .ok (.istore_n 2, 1) := by decide +kernel
theorem dX8_shop_64 : decode cX8_shop 64 = .ok (.iload_n 2, 1) := by decide +kernel
theorem dX8_shop_65 : decode cX8_shop 65 = .ok (.iconst 3, 1) := by decide +kernel
theorem dX8_shop_66 : decode cX8_shop 66 = .ok (.if_icmp .ge 19, 3) := by decide +kernel
theorem dX8_shop_69 : decode cX8_shop 69 = .ok (.aload_n 0, 1) := by decide +kernel
theorem dX8_shop_70 : decode cX8_shop 70 = .ok (.getfield 43, 3) := by decide +kernel
theorem dX8_shop_73 : decode cX8_shop 73 = .ok (.iload_n 2, 1) := by decide +kernel
theorem dX8_shop_74 : decode cX8_shop 74 = .ok (.aaload, 1) := by decide +kernel
theorem dX8_shop_75 : decode cX8_shop 75 = .ok (.iconst 0, 1) := by decide +kernel
theorem dX8_shop_76 : decode cX8_shop 76 = .ok (.putfield 93, 3) := by decide +kernel
theorem dX8_shop_79 : decode cX8_shop 79 = .ok (.iinc 2 1, 3) := by decide +kernel
theorem dX8_shop_82 : decode cX8_shop 82 = .ok (.goto (-18), 3) := by decide +kernel
theorem dX8_shop_85 : decode cX8_shop 85 = .ok (.aload_n 0, 1) := by decide +kernel
theorem dX8_shop_86 : decode cX8_shop 86 = .ok (.getfield 60, 3) := by decide +kernel
theorem dX8_shop_89 : decode cX8_shop 89 = .ok (.getfield 96, 3) := by decide +kernel
theorem dX8_shop_92 : decode cX8_shop 92 = .ok (.iconst 0, 1) := by decide +kernel
theorem dX8_shop_93 : decode cX8_shop 93 = .ok (.iaload, 1) := by decide +kernel
theorem dX8_shop_94 : decode cX8_shop 94 = .ok (.ireturn, 1) := by decide +kernel
theorem dX9_clearBank_0 : decode cX9_clearBank 0 = .ok (.aload_n 0, 1) := by decide +kernel
theorem dX9_clearBank_1 : decode cX9_clearBank 1 = .ok (.getfield 20, 3) := by decide +kernel
theorem dX9_clearBank_4 : decode cX9_clearBank 4 = .ok (.aload_n 0, 1) := by decide +kernel
theorem dX9_clearBank_5 : decode cX9_clearBank 5 = .ok (.getfield 279, 3) := by decide +kernel
theorem dX9_clearBank_8 : decode cX9_clearBank 8 = .ok (.iconst 0, 1) := by decide +kernel
theorem dX9_clearBank_9 : decode cX9_clearBank 9 = .ok (.iastore, 1) := by decide +kernel
theorem dX9_clearBank_10 : decode cX9_clearBank 10 = .ok (.aload_n 0, 1) := by decide +kernel
theorem dX9_clearBank_11 : decode cX9_clearBank 11 = .ok (.getfield 24, 3) := by decide +kernel
theorem dX9_clearBank_14 : decode cX9_clearBank 14 = .ok (.aload_n 0, 1) := by decide +kernel
theorem dX9_clearBank_15 : decode cX9_clearBank 15 = .ok (.getfield 279, 3) := by decide +kernel
theorem dX9_clearBank_18 : decode cX9_clearBank 18 = .ok (.iconst 0, 1) := by decide +kernel
theorem dX9_clearBank_19 : decode cX9_clearBank 19 = .ok (.iastore, 1) := by decide +kernel
theorem dX9_clearBank_20 : decode cX9_clearBank 20 = .ok (.aload_n 0, 1) := by decide +kernel
theorem dX9_clearBank_21 : decode cX9_clearBank 21 = .ok (.getfield 27, 3) := by decide +kernel
theorem dX9_clearBank_24 : decode cX9_clearBank 24 = .ok (.aload_n 0, 1) := by decide +kernel
theorem dX9_clearBank_25 : decode cX9_clearBank 25 = .ok (.getfield 279, 3) := by decide +kernel
theorem dX9_clearBank_28 : decode cX9_clearBank 28 = .ok (.iconst 0, 1) := by decide +kernel
theorem dX9_clearBank_29 : decode cX9_clearBank 29 = .ok (.iastore, 1) := by decide +kernel
theorem dX9_clearBank_30 : decode cX9_clearBank 30 = .ok (.aload_n 0, 1) := by decide +kernel
theorem dX9_clearBank_31 : decode cX9_clearBank 31 = .ok (.getfield 30, 3) := by decide +kernel
theorem dX9_clearBank_34 : decode cX9_clearBank 34 = .ok (.aload_n 0, 1) := by decide +kernel
theorem dX9_clearBank_35 : decode cX9_clearBank 35 = .ok (.getfield 279, 3) := by decide +kernel
theorem dX9_clearBank_38 : decode cX9_clearBank 38 = .ok (.iconst 0, 1) := by decide +kernel
theorem dX9_clearBank_39 : decode cX9_clearBank 39 = .ok (.iastore, 1) := by decide +kernel
theorem dX9_clearBank_40 : decode cX9_clearBank 40 = .ok (.aload_n 0, 1) := by decide +kernel
theorem dX9_clearBank_41 : decode cX9_clearBank 41 = .ok (.getfield 33, 3) := by decide +kernel
theorem dX9_clearBank_44 : decode cX9_clearBank 44 = .ok (.aload_n 0, 1) := by decide +kernel
theorem dX9_clearBank_45 : decode cX9_clearBank 45 = .ok (.getfield 279, 3) := by decide +kernel
theorem dX9_clearBank_48 : decode cX9_clearBank 48 = .ok (.iconst 0, 1) := by decide +kernel
theorem dX9_clearBank_49 : decode cX9_clearBank 49 = .ok (.iastore, 1) := by decide +kernel
theorem dX9_clearBank_50 : decode cX9_clearBank 50 = .ok (.aload_n 0, 1) := by decide +kernel
theorem dX9_clearBank_51 : decode cX9_clearBank 51 = .ok (.getfield 36, 3) := by decide +kernel
theorem dX9_clearBank_54 : decode cX9_clearBank 54 = .ok (.aload_n 0, 1) := by decide +kernel
theorem dX9_clearBank_55 : decode cX9_clearBank 55 = .ok (.getfield 279, 3) := by decide +kernel
theorem dX9_clearBank_58 : decode cX9_clearBank 58 = .ok (.bipush 100, 2) := by decide +kernel
theorem dX9_clearBank_60 : decode cX9_clearBank 60 = .ok (.iastore, 1) := by decide +kernel
theorem dX9_clearBank_61 : decode cX9_clearBank 61 = .ok (.aload_n 0, 1) := by decide +kernel
theorem dX9_clearBank_62 : decode cX9_clearBank 62 = .ok (.getfield 39, 3) := by decide +kernel
theorem dX9_clearBank_65 : decode cX9_clearBank 65 = .ok (.aload_n 0, 1) := by decide +kernel
theorem dX9_clearBank_66 : decode cX9_clearBank 66 = .ok (.getfield 279, 3) := by decide +kernel
theorem dX9_clearBank_69 : decode cX9_clearBank 69 = .ok (.iconst 0, 1) := by decide +kernel
theorem dX9_clearBank_70 : decode cX9_clearBank 70 = .ok (.iastore, 1) := by decide +kernel
theorem dX9_clearBank_71 : decode cX9_clearBank 71 = .ok (.aload_n 0, 1) := by decide +kernel
theorem dX9_clearBank_72 : decode cX9_clearBank 72 = .ok (.getfield 45, 3) := by decide +kernel
theorem dX9_clearBank_75 : decode cX9_clearBank 75 = .ok (.aload_n 0, 1) := by decide +kernel
theorem dX9_clearBank_76 : decode cX9_clearBank 76 = .ok (.getfield 279, 3) := by decide +kernel
theorem dX9_clearBank_79 : decode cX9_clearBank 79 = .ok (.iconst 0, 1) := by decide +kernel
theorem dX9_clearBank_80 : decode cX9_clearBank 80 = .ok (.bastore, 1) := by decide +kernel
theorem dX9_clearBank_81 : decode cX9_clearBank 81 = .ok (.aload_n 0, 1) := by decide +kernel
theorem dX9_clearBank_82 : decode cX9_clearBank 82 = .ok (.getfield 49, 3) := by decide +kernel
theorem dX9_clearBank_85 : decode cX9_clearBank 85 = .ok (.aload_n 0, 1) := by decide +kernel
theorem dX9_clearBank_86 : decode cX9_clearBank 86 = .ok (.getfield 279, 3) := by decide +kernel
theorem dX9_clearBank_89 : decode cX9_clearBank 89 = .ok (.iconst 0, 1) := by decide +kernel
theorem dX9_clearBank_90 : decode cX9_clearBank 90 = .ok (.bastore, 1) := by decide +kernel
theorem dX9_clearBank_91 : decode cX9_clearBank 91 = .ok (.aload_n 0, 1) := by decide +kernel
theorem dX9_clearBank_92 : decode cX9_clearBank 92 = .ok (.sipush 900, 3) := by decide +kernel
theorem dX9_clearBank_95 : decode cX9_clearBank 95 = .ok (.aload_n 0, 1) := by decide +kernel
theorem dX9_clearBank_96 : decode cX9_clearBank 96 = .ok (.getfield 279, 3) := by decide +kernel
theorem dX9_clearBank_99 : decode cX9_clearBank 99 = .ok (.imul, 1) := by decide +kernel
theorem dX9_clearBank_100 : decode cX9_clearBank 100 = .ok (.putfield 282, 3) := by decide +kernel
theorem dX9_clearBank_103 : decode cX9_clearBank 103 = .ok (.aload_n 0, 1) := by decide +kernel
theorem dX9_clearBank_104 : decode cX9_clearBank 104 = .ok (.iconst 0, 1) := by decide +kernel
theorem dX9_clearBank_105 : decode cX9_clearBank 105 = .ok (.putfield 285, 3) := by decide +kernel
theorem dX9_clearBank_108 : decode cX9_clearBank 108 = .ok (.return_, 1) := by decide +kernel
