theorem dX8_shop_0 : decode cX8_shop 0 = .ok (.aload_n 0, 1) := by decide +kernel
theorem dX8_shop_1 : decode cX8_shop 1 = .ok (.getfield 16, 3) := by decide +kernel
theorem dX8_shop_4 : decode cX8_shop 4 = .ok (.aload_n 0, 1) := by decide +kernel
theorem dX8_shop_5 : decode cX8_shop 5 = .ok (.getfield 9, 3) := by decide +kernel
theorem dX8_shop_8 : decode cX8_shop 8 = .ok (.aload_n 0, 1) := by decide +kernel
theorem dX8_shop_9 : decode cX8_shop 9 = .ok (.getfield 64, 3) := by decide +kernel
theorem dX8_shop_12 : decode cX8_shop 12 = .ok (.invokevirtual 83, 3) := by decide +kernel
theorem dX8_shop_15 : decode cX8_shop 15 = .ok (.ifCond .ne 5, 3) := by decide +kernel
theorem dX8_shop_20 : decode cX8_shop 20 = .ok (.aload_n 0, 1) := by decide +kernel
theorem dX8_shop_21 : decode cX8_shop 21 = .ok (.getfield 60, 3) := by decide +kernel
theorem dX8_shop_24 : decode cX8_shop 24 = .ok (.astore_n 1, 1) := by decide +kernel
theorem dX8_shop_25 : decode cX8_shop 25 = .ok (.aload_n 0, 1) := by decide +kernel
theorem dX8_shop_26 : decode cX8_shop 26 = .ok (.aload_n 0, 1) := by decide +kernel
theorem dX8_shop_27 : decode cX8_shop 27 = .ok (.getfield 16, 3) := by decide +kernel
theorem dX8_shop_30 : decode cX8_shop 30 = .ok (.getfield 87, 3) := by decide +kernel
theorem dX8_shop_33 : decode cX8_shop 33 = .ok (.putfield 60, 3) := by decide +kernel
theorem dX8_shop_36 : decode cX8_shop 36 = .ok (.aload_n 0, 1) := by decide +kernel
theorem dX8_shop_37 : decode cX8_shop 37 = .ok (.getfield 16, 3) := by decide +kernel
theorem dX8_shop_40 : decode cX8_shop 40 = .ok (.aload_n 1, 1) := by decide +kernel
theorem dX8_shop_41 : decode cX8_shop 41 = .ok (.putfield 87, 3) := by decide +kernel
theorem dX8_shop_44 : decode cX8_shop 44 = .ok (.aload_n 0, 1) := by decide +kernel
theorem dX8_shop_45 : decode cX8_shop 45 = .ok (.iconst 0, 1) := by decide +kernel
theorem dX8_shop_46 : decode cX8_shop 46 = .ok (.putfield 64, 3) := by decide +kernel
theorem dX8_shop_49 : decode cX8_shop 49 = .ok (.aload_n 0, 1) := by decide +kernel
theorem dX8_shop_50 : decode cX8_shop 50 = .ok (.iconst 0, 1) := by decide +kernel
theorem dX8_shop_51 : decode cX8_shop 51 = .ok (.putfield 68, 3) := by decide +kernel
theorem dX8_shop_54 : decode cX8_shop 54 = .ok (.aload_n 0, 1) := by decide +kernel
theorem dX8_shop_55 : decode cX8_shop 55 = .ok (.getfield 37, 3) := by decide +kernel
theorem dX8_shop_58 : decode cX8_shop 58 = .ok (.iconst 0, 1) := by decide +kernel
theorem dX8_shop_59 : decode cX8_shop 59 = .ok (.putfield 90, 3) := by decide +kernel
theorem dX8_shop_62 : decode cX8_shop 62 = .ok (.iconst 0, 1) := by decide +kernel
theorem dX8_shop_63 : decode cX8_shop 63 = .ok (.istore_n 2, 1) := by decide +kernel
theorem dX8_shop_64 : decode cX8_shop 64 = .ok (.iload_n 2, 1) := by decide +kernel
theorem dX8_shop_65 : decode cX8_shop 65 = .ok (.iconst 3, 1) := by decide +kernel
theorem dX8_shop_66 : decode cX8_shop 66 = .ok (.if_icmp .ge 19, 3) := by decide +kernel
theorem dX8_shop_69 : decode cX8_shop 69 = .ok (.aload_n 0, 1) := by decide +kernel
theorem dX8_shop_70 : decode cX8_shop 70 = .ok (.getfield 43, 3) := by decide +kernel
theorem dX8_shop_73 : decode cX8_shop 73 = .ok (.iload_n 2, 1) := by decide +kernel
theorem dX8_shop_74 : decode cX8_shop 74 = .ok (.aaload, 1) := by decide +kernel
theorem dX8_shop_75 : decode cX8_shop 75 = .ok (.iconst 0, 1) := by decide +kernel
theorem dX8_shop_76 : decode cX8_shop 76 = .ok (.putfield 93, 3) := by decide +kernel
theorem dX8_shop_79 : decode cX8_shop 79 = .ok (.iinc 2 1, 3) := by decide +kernel
theorem dX8_shop_82 : decode cX8_shop 82 = .ok (.goto (-18), 3) := by decide +kernel
theorem dX8_shop_85 : decode cX8_shop 85 = .ok (.aload_n 0, 1) := by decide +kernel
theorem dX8_shop_86 : decode cX8_shop 86 = .ok (.getfield 60, 3) := by decide +kernel
theorem dX8_shop_89 : decode cX8_shop 89 = .ok (.getfield 96, 3) := by decide +kernel
theorem dX8_shop_92 : decode cX8_shop 92 = .ok (.iconst 0, 1) := by decide +kernel
theorem dX8_shop_93 : decode cX8_shop 93 = .ok (.iaload, 1) := by decide +kernel
theorem dX8_shop_94 : decode cX8_shop 94 = .ok (.ireturn, 1) := by decide +kernel
theorem dX8_shop_18 : decode cX8_shop 18 = .ok (.iconst (-1), 1) := by decide +kernel
theorem dX8_shop_19 : decode cX8_shop 19 = .ok (.ireturn, 1) := by decide +kernel
