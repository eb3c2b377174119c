theorem dX0_likeBits_0 : decode cX0_likeBits 0 = .ok (.iconst 1, 1) := by decide +kernel
theorem dX0_likeBits_1 : decode cX0_likeBits 1 = .ok (.iload_n 0, 1) := by decide +kernel
theorem dX0_likeBits_2 : decode cX0_likeBits 2 = .ok (.ishl, 1) := by decide +kernel
theorem dX0_likeBits_3 : decode cX0_likeBits 3 = .ok (.iconst 2, 1) := by decide +kernel
theorem dX0_likeBits_4 : decode cX0_likeBits 4 = .ok (.isub, 1) := by decide +kernel
theorem dX0_likeBits_5 : decode cX0_likeBits 5 = .ok (.istore_n 2, 1) := by decide +kernel
theorem dX0_likeBits_6 : decode cX0_likeBits 6 = .ok (.iload_n 1, 1) := by decide +kernel
theorem dX0_likeBits_7 : decode cX0_likeBits 7 = .ok (.iload_n 1, 1) := by decide +kernel
theorem dX0_likeBits_8 : decode cX0_likeBits 8 = .ok (.iconst 1, 1) := by decide +kernel
theorem dX0_likeBits_9 : decode cX0_likeBits 9 = .ok (.ishl, 1) := by decide +kernel
theorem dX0_likeBits_10 : decode cX0_likeBits 10 = .ok (.ixor, 1) := by decide +kernel
theorem dX0_likeBits_11 : decode cX0_likeBits 11 = .ok (.iconst (-1), 1) := by decide +kernel
theorem dX0_likeBits_12 : decode cX0_likeBits 12 = .ok (.ixor, 1) := by decide +kernel
theorem dX0_likeBits_13 : decode cX0_likeBits 13 = .ok (.iload_n 2, 1) := by decide +kernel
theorem dX0_likeBits_14 : decode cX0_likeBits 14 = .ok (.iand, 1) := by decide +kernel
theorem dX0_likeBits_15 : decode cX0_likeBits 15 = .ok (.ireturn, 1) := by decide +kernel
theorem dX0_takeKnot_0 : decode cX0_takeKnot 0 = .ok (.aload_n 0, 1) := by decide +kernel
theorem dX0_takeKnot_1 : decode cX0_takeKnot 1 = .ok (.iload_n 1, 1) := by decide +kernel
theorem dX0_takeKnot_2 : decode cX0_takeKnot 2 = .ok (.bipush 12, 2) := by decide +kernel
theorem dX0_takeKnot_4 : decode cX0_takeKnot 4 = .ok (.invokestatic 60, 3) := by decide +kernel
theorem dX0_takeKnot_7 : decode cX0_takeKnot 7 = .ok (.putfield 20, 3) := by decide +kernel
theorem dX0_takeKnot_10 : decode cX0_takeKnot 10 = .ok (.aload_n 0, 1) := by decide +kernel
theorem dX0_takeKnot_11 : decode cX0_takeKnot 11 = .ok (.iload_n 2, 1) := by decide +kernel
theorem dX0_takeKnot_12 : decode cX0_takeKnot 12 = .ok (.putfield 39, 3) := by decide +kernel
theorem dX0_takeKnot_15 : decode cX0_takeKnot 15 = .ok (.aload_n 0, 1) := by decide +kernel
theorem dX0_takeKnot_16 : decode cX0_takeKnot 16 = .ok (.aload_n 0, 1) := by decide +kernel
theorem dX0_takeKnot_17 : decode cX0_takeKnot 17 = .ok (.getfield 20, 3) := by decide +kernel
theorem dX0_takeKnot_20 : decode cX0_takeKnot 20 = .ok (.aload_n 0, 1) := by decide +kernel
theorem dX0_takeKnot_21 : decode cX0_takeKnot 21 = .ok (.getfield 39, 3) := by decide +kernel
theorem dX0_takeKnot_24 : decode cX0_takeKnot 24 = .ok (.invokestatic 66, 3) := by decide +kernel
theorem dX0_takeKnot_27 : decode cX0_takeKnot 27 = .ok (.putfield 42, 3) := by decide +kernel
theorem dX0_takeKnot_30 : decode cX0_takeKnot 30 = .ok (.return_, 1) := by decide +kernel
theorem dX0_takeCord_0 : decode cX0_takeCord 0 = .ok (.aload_n 0, 1) := by decide +kernel
theorem dX0_takeCord_1 : decode cX0_takeCord 1 = .ok (.iload_n 1, 1) := by decide +kernel
theorem dX0_takeCord_2 : decode cX0_takeCord 2 = .ok (.putfield 45, 3) := by decide +kernel
theorem dX0_takeCord_5 : decode cX0_takeCord 5 = .ok (.aload_n 0, 1) := by decide +kernel
theorem dX0_takeCord_6 : decode cX0_takeCord 6 = .ok (.iload_n 2, 1) := by decide +kernel
theorem dX0_takeCord_7 : decode cX0_takeCord 7 = .ok (.putfield 48, 3) := by decide +kernel
theorem dX0_takeCord_10 : decode cX0_takeCord 10 = .ok (.aload_n 0, 1) := by decide +kernel
theorem dX0_takeCord_11 : decode cX0_takeCord 11 = .ok (.iload_n 3, 1) := by decide +kernel
theorem dX0_takeCord_12 : decode cX0_takeCord 12 = .ok (.putfield 51, 3) := by decide +kernel
theorem dX0_takeCord_15 : decode cX0_takeCord 15 = .ok (.return_, 1) := by decide +kernel
theorem dX0_begin_0 : decode cX0_begin 0 = .ok (.iconst 0, 1) := by decide +kernel
theorem dX0_begin_1 : decode cX0_begin 1 = .ok (.istore_n 2, 1) := by decide +kernel
theorem dX0_begin_2 : decode cX0_begin 2 = .ok (.iload_n 2, 1) := by decide +kernel
theorem dX0_begin_3 : decode cX0_begin 3 = .ok (.aload_n 0, 1) := by decide +kernel
theorem dX0_begin_4 : decode cX0_begin 4 = .ok (.getfield 20, 3) := by decide +kernel
theorem dX0_begin_7 : decode cX0_begin 7 = .ok (.if_icmp .ge 16, 3) := by decide +kernel
theorem dX0_begin_23 : decode cX0_begin 23 = .ok (.aload_n 0, 1) := by decide +kernel
theorem dX0_begin_24 : decode cX0_begin 24 = .ok (.aload_n 0, 1) := by decide +kernel
theorem dX0_begin_25 : decode cX0_begin 25 = .ok (.getfield 20, 3) := by decide +kernel
theorem dX0_begin_28 : decode cX0_begin 28 = .ok (.putfield 24, 3) := by decide +kernel
theorem dX0_begin_31 : decode cX0_begin 31 = .ok (.aload_n 0, 1) := by decide +kernel
theorem dX0_begin_32 : decode cX0_begin 32 = .ok (.getfield 17, 3) := by decide +kernel
theorem dX0_begin_35 : decode cX0_begin 35 = .ok (.iconst 0, 1) := by decide +kernel
theorem dX0_begin_36 : decode cX0_begin 36 = .ok (.aload_n 0, 1) := by decide +kernel
theorem dX0_begin_37 : decode cX0_begin 37 = .ok (.getfield 51, 3) := by decide +kernel
theorem dX0_begin_40 : decode cX0_begin 40 = .ok (.iastore, 1) := by decide +kernel
theorem dX0_begin_41 : decode cX0_begin 41 = .ok (.aload_n 0, 1) := by decide +kernel
theorem dX0_begin_42 : decode cX0_begin 42 = .ok (.getfield 17, 3) := by decide +kernel
theorem dX0_begin_45 : decode cX0_begin 45 = .ok (.iconst 1, 1) := by decide +kernel
theorem dX0_begin_46 : decode cX0_begin 46 = .ok (.aload_n 0, 1) := by decide +kernel
theorem dX0_begin_47 : decode cX0_begin 47 = .ok (.getfield 51, 3) := by decide +kernel
theorem dX0_begin_50 : decode cX0_begin 50 = .ok (.iastore, 1) := by decide +kernel
theorem dX0_begin_51 : decode cX0_begin 51 = .ok (.aload_n 0, 1) := by decide +kernel
theorem dX0_begin_52 : decode cX0_begin 52 = .ok (.iconst 0, 1) := by decide +kernel
theorem dX0_begin_53 : decode cX0_begin 53 = .ok (.putfield 27, 3) := by decide +kernel
theorem dX0_begin_56 : decode cX0_begin 56 = .ok (.aload_n 0, 1) := by decide +kernel
theorem dX0_begin_57 : decode cX0_begin 57 = .ok (.iconst 0, 1) := by decide +kernel
theorem dX0_begin_58 : decode cX0_begin 58 = .ok (.putfield 30, 3) := by decide +kernel
theorem dX0_begin_61 : decode cX0_begin 61 = .ok (.aload_n 0, 1) := by decide +kernel
theorem dX0_begin_62 : decode cX0_begin 62 = .ok (.iconst (-1), 1) := by decide +kernel
theorem dX0_begin_63 : decode cX0_begin 63 = .ok (.putfield 33, 3) := by decide +kernel
theorem dX0_begin_66 : decode cX0_begin 66 = .ok (.aload_n 0, 1) := by decide +kernel
theorem dX0_begin_67 : decode cX0_begin 67 = .ok (.iconst 0, 1) := by decide +kernel
theorem dX0_begin_68 : decode cX0_begin 68 = .ok (.putfield 36, 3) := by decide +kernel
theorem dX0_begin_71 : decode cX0_begin 71 = .ok (.return_, 1) := by decide +kernel
theorem dX0_begin_10 : decode cX0_begin 10 = .ok (.aload_n 0, 1) := by decide +kernel
theorem dX0_begin_11 : decode cX0_begin 11 = .ok (.getfield 11, 3) := by decide +kernel
theorem dX0_begin_14 : decode cX0_begin 14 = .ok (.iload_n 2, 1) := by decide +kernel
theorem dX0_begin_15 : decode cX0_begin 15 = .ok (.iload_n 1, 1) := by decide +kernel
theorem dX0_begin_16 : decode cX0_begin 16 = .ok (.iastore, 1) := by decide +kernel
theorem dX0_begin_17 : decode cX0_begin 17 = .ok (.iinc 2 1, 3) := by decide +kernel
theorem dX0_begin_20 : decode cX0_begin 20 = .ok (.goto (-18), 3) := by decide +kernel
theorem dX3_clear_0 : decode cX3_clear 0 = .ok (.aload_n 0, 1) := by decide +kernel
theorem dX3_clear_1 : decode cX3_clear 1 = .ok (.iconst 0, 1) := by decide +kernel
theorem dX3_clear_2 : decode cX3_clear 2 = .ok (.putfield 21, 3) := by decide +kernel
theorem dX3_clear_5 : decode cX3_clear 5 = .ok (.aload_n 0, 1) := by decide +kernel
theorem dX3_clear_6 : decode cX3_clear 6 = .ok (.iconst 0, 1) := by decide +kernel
theorem dX3_clear_7 : decode cX3_clear 7 = .ok (.putfield 25, 3) := by decide +kernel
theorem dX3_clear_10 : decode cX3_clear 10 = .ok (.aload_n 0, 1) := by decide +kernel
theorem dX3_clear_11 : decode cX3_clear 11 = .ok (.iconst 0, 1) := by decide +kernel
theorem dX3_clear_12 : decode cX3_clear 12 = .ok (.putfield 28, 3) := by decide +kernel
theorem dX3_clear_15 : decode cX3_clear 15 = .ok (.return_, 1) := by decide +kernel
theorem dX3_put_0 : decode cX3_put 0 = .ok (.aload_n 0, 1) := by decide +kernel
theorem dX3_put_1 : decode cX3_put 1 = .ok (.getfield 21, 3) := by decide +kernel
theorem dX3_put_4 : decode cX3_put 4 = .ok (.sipush 600, 3) := by decide +kernel
theorem dX3_put_7 : decode cX3_put 7 = .ok (.if_icmp .lt 5, 3) := by decide +kernel
theorem dX3_put_12 : decode cX3_put 12 = .ok (.aload_n 0, 1) := by decide +kernel
theorem dX3_put_13 : decode cX3_put 13 = .ok (.getfield 9, 3) := by decide +kernel
theorem dX3_put_16 : decode cX3_put 16 = .ok (.aload_n 0, 1) := by decide +kernel
theorem dX3_put_17 : decode cX3_put 17 = .ok (.getfield 21, 3) := by decide +kernel
theorem dX3_put_20 : decode cX3_put 20 = .ok (.iload_n 1, 1) := by decide +kernel
theorem dX3_put_21 : decode cX3_put 21 = .ok (.iastore, 1) := by decide +kernel
theorem dX3_put_22 : decode cX3_put 22 = .ok (.aload_n 0, 1) := by decide +kernel
theorem dX3_put_23 : decode cX3_put 23 = .ok (.dup, 1) := by decide +kernel
theorem dX3_put_24 : decode cX3_put 24 = .ok (.getfield 21, 3) := by decide +kernel
theorem dX3_put_27 : decode cX3_put 27 = .ok (.iconst 1, 1) := by decide +kernel
theorem dX3_put_28 : decode cX3_put 28 = .ok (.iadd, 1) := by decide +kernel
theorem dX3_put_29 : decode cX3_put 29 = .ok (.putfield 21, 3) := by decide +kernel
theorem dX3_put_32 : decode cX3_put 32 = .ok (.iconst 1, 1) := by decide +kernel
theorem dX3_put_33 : decode cX3_put 33 = .ok (.ireturn, 1) := by decide +kernel
theorem dX3_put_10 : decode cX3_put 10 = .ok (.iconst 0, 1) := by decide +kernel
theorem dX3_put_11 : decode cX3_put 11 = .ok (.ireturn, 1) := by decide +kernel
theorem dX3_endRow_0 : decode cX3_endRow 0 = .ok (.aload_n 0, 1) := by decide +kernel
theorem dX3_endRow_1 : decode cX3_endRow 1 = .ok (.getfield 25, 3) := by decide +kernel
theorem dX3_endRow_4 : decode cX3_endRow 4 = .ok (.aload_n 0, 1) := by decide +kernel
theorem dX3_endRow_5 : decode cX3_endRow 5 = .ok (.getfield 15, 3) := by decide +kernel
theorem dX3_endRow_8 : decode cX3_endRow 8 = .ok (.arraylength, 1) := by decide +kernel
theorem dX3_endRow_9 : decode cX3_endRow 9 = .ok (.if_icmp .lt 5, 3) := by decide +kernel
theorem dX3_endRow_14 : decode cX3_endRow 14 = .ok (.aload_n 0, 1) := by decide +kernel
theorem dX3_endRow_15 : decode cX3_endRow 15 = .ok (.getfield 15, 3) := by decide +kernel
theorem dX3_endRow_18 : decode cX3_endRow 18 = .ok (.aload_n 0, 1) := by decide +kernel
theorem dX3_endRow_19 : decode cX3_endRow 19 = .ok (.getfield 25, 3) := by decide +kernel
theorem dX3_endRow_22 : decode cX3_endRow 22 = .ok (.aload_n 0, 1) := by decide +kernel
theorem dX3_endRow_23 : decode cX3_endRow 23 = .ok (.getfield 21, 3) := by decide +kernel
theorem dX3_endRow_26 : decode cX3_endRow 26 = .ok (.iastore, 1) := by decide +kernel
theorem dX3_endRow_27 : decode cX3_endRow 27 = .ok (.aload_n 0, 1) := by decide +kernel
theorem dX3_endRow_28 : decode cX3_endRow 28 = .ok (.dup, 1) := by decide +kernel
theorem dX3_endRow_29 : decode cX3_endRow 29 = .ok (.getfield 25, 3) := by decide +kernel
theorem dX3_endRow_32 : decode cX3_endRow 32 = .ok (.iconst 1, 1) := by decide +kernel
theorem dX3_endRow_33 : decode cX3_endRow 33 = .ok (.iadd, 1) := by decide +kernel
theorem dX3_endRow_34 : decode cX3_endRow 34 = .ok (.putfield 25, 3) := by decide +kernel
theorem dX3_endRow_37 : decode cX3_endRow 37 = .ok (.iconst 1, 1) := by decide +kernel
theorem dX3_endRow_38 : decode cX3_endRow 38 = .ok (.ireturn, 1) := by decide +kernel
theorem dX3_endRow_12 : decode cX3_endRow 12 = .ok (.iconst 0, 1) := by decide +kernel
theorem dX3_endRow_13 : decode cX3_endRow 13 = .ok (.ireturn, 1) := by decide +kernel
