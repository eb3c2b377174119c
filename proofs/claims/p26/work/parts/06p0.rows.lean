theorem dX9_lengthOf_0 : decode cX9_lengthOf 0 = .ok (.aload_n 0, 1) := by decide +kernel
theorem dX9_lengthOf_1 : decode cX9_lengthOf 1 = .ok (.iconst 3, 1) := by decide +kernel
theorem dX9_lengthOf_2 : decode cX9_lengthOf 2 = .ok (.invokevirtual 471, 3) := by decide +kernel
theorem dX9_lengthOf_5 : decode cX9_lengthOf 5 = .ok (.aload_n 0, 1) := by decide +kernel
theorem dX9_lengthOf_6 : decode cX9_lengthOf 6 = .ok (.iload_n 1, 1) := by decide +kernel
theorem dX9_lengthOf_7 : decode cX9_lengthOf 7 = .ok (.iload_n 2, 1) := by decide +kernel
theorem dX9_lengthOf_8 : decode cX9_lengthOf 8 = .ok (.invokevirtual 437, 3) := by decide +kernel
theorem dX9_lengthOf_11 : decode cX9_lengthOf 11 = .ok (.iconst 0, 1) := by decide +kernel
theorem dX9_lengthOf_12 : decode cX9_lengthOf 12 = .ok (.istore 6, 2) := by decide +kernel
theorem dX9_lengthOf_14 : decode cX9_lengthOf 14 = .ok (.iload 6, 2) := by decide +kernel
theorem dX9_lengthOf_16 : decode cX9_lengthOf 16 = .ok (.iload 4, 2) := by decide +kernel
theorem dX9_lengthOf_18 : decode cX9_lengthOf 18 = .ok (.if_icmp .ge 26, 3) := by decide +kernel
theorem dX9_lengthOf_44 : decode cX9_lengthOf 44 = .ok (.aload_n 0, 1) := by decide +kernel
theorem dX9_lengthOf_45 : decode cX9_lengthOf 45 = .ok (.getfield 122, 3) := by decide +kernel
theorem dX9_lengthOf_48 : decode cX9_lengthOf 48 = .ok (.iconst 0, 1) := by decide +kernel
theorem dX9_lengthOf_49 : decode cX9_lengthOf 49 = .ok (.iaload, 1) := by decide +kernel
theorem dX9_lengthOf_50 : decode cX9_lengthOf 50 = .ok (.aload_n 0, 1) := by decide +kernel
theorem dX9_lengthOf_51 : decode cX9_lengthOf 51 = .ok (.getfield 122, 3) := by decide +kernel
theorem dX9_lengthOf_54 : decode cX9_lengthOf 54 = .ok (.iconst 1, 1) := by decide +kernel
theorem dX9_lengthOf_55 : decode cX9_lengthOf 55 = .ok (.iaload, 1) := by decide +kernel
theorem dX9_lengthOf_56 : decode cX9_lengthOf 56 = .ok (.iadd, 1) := by decide +kernel
theorem dX9_lengthOf_57 : decode cX9_lengthOf 57 = .ok (.istore 6, 2) := by decide +kernel
theorem dX9_lengthOf_59 : decode cX9_lengthOf 59 = .ok (.aload_n 0, 1) := by decide +kernel
theorem dX9_lengthOf_60 : decode cX9_lengthOf 60 = .ok (.iconst 3, 1) := by decide +kernel
theorem dX9_lengthOf_61 : decode cX9_lengthOf 61 = .ok (.invokevirtual 478, 3) := by decide +kernel
theorem dX9_lengthOf_64 : decode cX9_lengthOf 64 = .ok (.iload 6, 2) := by decide +kernel
theorem dX9_lengthOf_66 : decode cX9_lengthOf 66 = .ok (.ireturn, 1) := by decide +kernel
theorem dX9_lengthOf_21 : decode cX9_lengthOf 21 = .ok (.aload_n 0, 1) := by decide +kernel
theorem dX9_lengthOf_22 : decode cX9_lengthOf 22 = .ok (.getfield 396, 3) := by decide +kernel
theorem dX9_lengthOf_25 : decode cX9_lengthOf 25 = .ok (.ifCond .le 19, 3) := by decide +kernel
theorem dX9_lengthOf_28 : decode cX9_lengthOf 28 = .ok (.aload_n 0, 1) := by decide +kernel
theorem dX9_lengthOf_29 : decode cX9_lengthOf 29 = .ok (.iload_n 3, 1) := by decide +kernel
theorem dX9_lengthOf_30 : decode cX9_lengthOf 30 = .ok (.iload 6, 2) := by decide +kernel
theorem dX9_lengthOf_32 : decode cX9_lengthOf 32 = .ok (.iload 5, 2) := by decide +kernel
theorem dX9_lengthOf_34 : decode cX9_lengthOf 34 = .ok (.invokevirtual 462, 3) := by decide +kernel
theorem dX9_lengthOf_37 : decode cX9_lengthOf 37 = .ok (.pop, 1) := by decide +kernel
theorem dX9_lengthOf_38 : decode cX9_lengthOf 38 = .ok (.iinc 6 1, 3) := by decide +kernel
theorem dX9_lengthOf_41 : decode cX9_lengthOf 41 = .ok (.goto (-27), 3) := by decide +kernel
theorem dX9_isFit_0 : decode cX9_isFit 0 = .ok (.iconst 0, 1) := by decide +kernel
theorem dX9_isFit_1 : decode cX9_isFit 1 = .ok (.istore 4, 2) := by decide +kernel
theorem dX9_isFit_3 : decode cX9_isFit 3 = .ok (.iload 4, 2) := by decide +kernel
theorem dX9_isFit_5 : decode cX9_isFit 5 = .ok (.aload_n 0, 1) := by decide +kernel
theorem dX9_isFit_6 : decode cX9_isFit 6 = .ok (.getfield 301, 3) := by decide +kernel
theorem dX9_isFit_9 : decode cX9_isFit 9 = .ok (.if_icmp .ge 108, 3) := by decide +kernel
theorem dX9_isFit_117 : decode cX9_isFit 117 = .ok (.iconst 1, 1) := by decide +kernel
theorem dX9_isFit_118 : decode cX9_isFit 118 = .ok (.ireturn, 1) := by decide +kernel
theorem dX9_isFit_12 : decode cX9_isFit 12 = .ok (.aload_n 0, 1) := by decide +kernel
theorem dX9_isFit_13 : decode cX9_isFit 13 = .ok (.getfield 149, 3) := by decide +kernel
theorem dX9_isFit_16 : decode cX9_isFit 16 = .ok (.iload 4, 2) := by decide +kernel
theorem dX9_isFit_18 : decode cX9_isFit 18 = .ok (.iaload, 1) := by decide +kernel
theorem dX9_isFit_19 : decode cX9_isFit 19 = .ok (.iload_n 3, 1) := by decide +kernel
theorem dX9_isFit_20 : decode cX9_isFit 20 = .ok (.if_icmp .gt 91, 3) := by decide +kernel
theorem dX9_isFit_111 : decode cX9_isFit 111 = .ok (.iinc 4 1, 3) := by decide +kernel
theorem dX9_isFit_114 : decode cX9_isFit 114 = .ok (.goto (-111), 3) := by decide +kernel
theorem dX9_isFit_23 : decode cX9_isFit 23 = .ok (.aload_n 0, 1) := by decide +kernel
theorem dX9_isFit_24 : decode cX9_isFit 24 = .ok (.getfield 152, 3) := by decide +kernel
theorem dX9_isFit_27 : decode cX9_isFit 27 = .ok (.iload 4, 2) := by decide +kernel
theorem dX9_isFit_29 : decode cX9_isFit 29 = .ok (.iaload, 1) := by decide +kernel
theorem dX9_isFit_30 : decode cX9_isFit 30 = .ok (.ifCond .lt 17, 3) := by decide +kernel
theorem dX9_isFit_47 : decode cX9_isFit 47 = .ok (.aload_n 0, 1) := by decide +kernel
theorem dX9_isFit_48 : decode cX9_isFit 48 = .ok (.aload_n 0, 1) := by decide +kernel
theorem dX9_isFit_49 : decode cX9_isFit 49 = .ok (.getfield 134, 3) := by decide +kernel
theorem dX9_isFit_52 : decode cX9_isFit 52 = .ok (.iload 4, 2) := by decide +kernel
theorem dX9_isFit_54 : decode cX9_isFit 54 = .ok (.iaload, 1) := by decide +kernel
theorem dX9_isFit_55 : decode cX9_isFit 55 = .ok (.iload_n 2, 1) := by decide +kernel
theorem dX9_isFit_56 : decode cX9_isFit 56 = .ok (.aload_n 0, 1) := by decide +kernel
theorem dX9_isFit_57 : decode cX9_isFit 57 = .ok (.getfield 137, 3) := by decide +kernel
theorem dX9_isFit_60 : decode cX9_isFit 60 = .ok (.iload 4, 2) := by decide +kernel
theorem dX9_isFit_62 : decode cX9_isFit 62 = .ok (.iaload, 1) := by decide +kernel
theorem dX9_isFit_63 : decode cX9_isFit 63 = .ok (.aload_n 0, 1) := by decide +kernel
theorem dX9_isFit_64 : decode cX9_isFit 64 = .ok (.getfield 140, 3) := by decide +kernel
theorem dX9_isFit_67 : decode cX9_isFit 67 = .ok (.iload 4, 2) := by decide +kernel
theorem dX9_isFit_69 : decode cX9_isFit 69 = .ok (.iaload, 1) := by decide +kernel
theorem dX9_isFit_70 : decode cX9_isFit 70 = .ok (.iload_n 1, 1) := by decide +kernel
theorem dX9_isFit_71 : decode cX9_isFit 71 = .ok (.invokevirtual 520, 3) := by decide +kernel
theorem dX9_isFit_74 : decode cX9_isFit 74 = .ok (.aload_n 0, 1) := by decide +kernel
theorem dX9_isFit_75 : decode cX9_isFit 75 = .ok (.getfield 143, 3) := by decide +kernel
theorem dX9_isFit_78 : decode cX9_isFit 78 = .ok (.iload 4, 2) := by decide +kernel
theorem dX9_isFit_80 : decode cX9_isFit 80 = .ok (.iaload, 1) := by decide +kernel
theorem dX9_isFit_81 : decode cX9_isFit 81 = .ok (.isub, 1) := by decide +kernel
theorem dX9_isFit_82 : decode cX9_isFit 82 = .ok (.istore 5, 2) := by decide +kernel
theorem dX9_isFit_84 : decode cX9_isFit 84 = .ok (.iload 5, 2) := by decide +kernel
theorem dX9_isFit_86 : decode cX9_isFit 86 = .ok (.aload_n 0, 1) := by decide +kernel
theorem dX9_isFit_87 : decode cX9_isFit 87 = .ok (.getfield 146, 3) := by decide +kernel
theorem dX9_isFit_90 : decode cX9_isFit 90 = .ok (.iload 4, 2) := by decide +kernel
theorem dX9_isFit_92 : decode cX9_isFit 92 = .ok (.iaload, 1) := by decide +kernel
theorem dX9_isFit_93 : decode cX9_isFit 93 = .ok (.if_icmp .gt 16, 3) := by decide +kernel
theorem dX9_isFit_109 : decode cX9_isFit 109 = .ok (.iconst 0, 1) := by decide +kernel
theorem dX9_isFit_110 : decode cX9_isFit 110 = .ok (.ireturn, 1) := by decide +kernel
theorem dX9_isFit_96 : decode cX9_isFit 96 = .ok (.iload 5, 2) := by decide +kernel
theorem dX9_isFit_98 : decode cX9_isFit 98 = .ok (.aload_n 0, 1) := by decide +kernel
theorem dX9_isFit_99 : decode cX9_isFit 99 = .ok (.getfield 146, 3) := by decide +kernel
theorem dX9_isFit_102 : decode cX9_isFit 102 = .ok (.iload 4, 2) := by decide +kernel
theorem dX9_isFit_104 : decode cX9_isFit 104 = .ok (.iaload, 1) := by decide +kernel
theorem dX9_isFit_105 : decode cX9_isFit 105 = .ok (.ineg, 1) := by decide +kernel
theorem dX9_isFit_106 : decode cX9_isFit 106 = .ok (.if_icmp .ge 5, 3) := by decide +kernel
theorem dX9_isFit_33 : decode cX9_isFit 33 = .ok (.aload_n 0, 1) := by decide +kernel
theorem dX9_isFit_34 : decode cX9_isFit 34 = .ok (.getfield 152, 3) := by decide +kernel
theorem dX9_isFit_37 : decode cX9_isFit 37 = .ok (.iload 4, 2) := by decide +kernel
theorem dX9_isFit_39 : decode cX9_isFit 39 = .ok (.iaload, 1) := by decide +kernel
theorem dX9_isFit_40 : decode cX9_isFit 40 = .ok (.iload_n 3, 1) := by decide +kernel
theorem dX9_isFit_41 : decode cX9_isFit 41 = .ok (.if_icmp .gt 6, 3) := by decide +kernel
theorem dX9_isFit_44 : decode cX9_isFit 44 = .ok (.goto 67, 3) := by decide +kernel
theorem dX9_fits_0 : decode cX9_fits 0 = .ok (.iconst 0, 1) := by decide +kernel
theorem dX9_fits_1 : decode cX9_fits 1 = .ok (.istore_n 2, 1) := by decide +kernel
theorem dX9_fits_2 : decode cX9_fits 2 = .ok (.iconst 0, 1) := by decide +kernel
theorem dX9_fits_3 : decode cX9_fits 3 = .ok (.istore_n 3, 1) := by decide +kernel
theorem dX9_fits_4 : decode cX9_fits 4 = .ok (.iload_n 3, 1) := by decide +kernel
theorem dX9_fits_5 : decode cX9_fits 5 = .ok (.aload_n 0, 1) := by decide +kernel
theorem dX9_fits_6 : decode cX9_fits 6 = .ok (.invokevirtual 524, 3) := by decide +kernel
theorem dX9_fits_9 : decode cX9_fits 9 = .ok (.if_icmp .ge 58, 3) := by decide +kernel
theorem dX9_fits_67 : decode cX9_fits 67 = .ok (.iload_n 2, 1) := by decide +kernel
theorem dX9_fits_68 : decode cX9_fits 68 = .ok (.ireturn, 1) := by decide +kernel
theorem dX9_fits_12 : decode cX9_fits 12 = .ok (.iconst 0, 1) := by decide +kernel
theorem dX9_fits_13 : decode cX9_fits 13 = .ok (.istore 4, 2) := by decide +kernel
theorem dX9_fits_15 : decode cX9_fits 15 = .ok (.iload 4, 2) := by decide +kernel
theorem dX9_fits_17 : decode cX9_fits 17 = .ok (.aload_n 0, 1) := by decide +kernel
theorem dX9_fits_18 : decode cX9_fits 18 = .ok (.getfield 24, 3) := by decide +kernel
theorem dX9_fits_21 : decode cX9_fits 21 = .ok (.aload_n 0, 1) := by decide +kernel
theorem dX9_fits_22 : decode cX9_fits 22 = .ok (.getfield 291, 3) := by decide +kernel
theorem dX9_fits_25 : decode cX9_fits 25 = .ok (.iaload, 1) := by decide +kernel
theorem dX9_fits_26 : decode cX9_fits 26 = .ok (.if_icmp .ge 35, 3) := by decide +kernel
theorem dX9_fits_61 : decode cX9_fits 61 = .ok (.iinc 3 1, 3) := by decide +kernel
theorem dX9_fits_64 : decode cX9_fits 64 = .ok (.goto (-60), 3) := by decide +kernel
theorem dX9_fits_29 : decode cX9_fits 29 = .ok (.iload_n 2, 1) := by decide +kernel
theorem dX9_fits_30 : decode cX9_fits 30 = .ok (.aload_n 0, 1) := by decide +kernel
theorem dX9_fits_31 : decode cX9_fits 31 = .ok (.iload_n 3, 1) := by decide +kernel
theorem dX9_fits_32 : decode cX9_fits 32 = .ok (.iload 4, 2) := by decide +kernel
theorem dX9_fits_34 : decode cX9_fits 34 = .ok (.iload_n 1, 1) := by decide +kernel
theorem dX9_fits_35 : decode cX9_fits 35 = .ok (.invokevirtual 527, 3) := by decide +kernel
theorem dX9_fits_38 : decode cX9_fits 38 = .ok (.ifCond .eq 14, 3) := by decide +kernel
theorem dX9_fits_41 : decode cX9_fits 41 = .ok (.iconst 1, 1) := by decide +kernel
theorem dX9_fits_42 : decode cX9_fits 42 = .ok (.iconst 4, 1) := by decide +kernel
theorem dX9_fits_43 : decode cX9_fits 43 = .ok (.iload_n 3, 1) := by decide +kernel
theorem dX9_fits_44 : decode cX9_fits 44 = .ok (.imul, 1) := by decide +kernel
theorem dX9_fits_45 : decode cX9_fits 45 = .ok (.iload 4, 2) := by decide +kernel
theorem dX9_fits_47 : decode cX9_fits 47 = .ok (.iadd, 1) := by decide +kernel
theorem dX9_fits_48 : decode cX9_fits 48 = .ok (.ishl, 1) := by decide +kernel
theorem dX9_fits_49 : decode cX9_fits 49 = .ok (.goto 4, 3) := by decide +kernel
theorem dX9_fits_53 : decode cX9_fits 53 = .ok (.ior, 1) := by decide +kernel
theorem dX9_fits_54 : decode cX9_fits 54 = .ok (.istore_n 2, 1) := by decide +kernel
theorem dX9_fits_55 : decode cX9_fits 55 = .ok (.iinc 4 1, 3) := by decide +kernel
theorem dX9_fits_58 : decode cX9_fits 58 = .ok (.goto (-43), 3) := by decide +kernel
theorem dX9_fits_52 : decode cX9_fits 52 = .ok (.iconst 0, 1) := by decide +kernel
theorem dX9_unlike_0 : decode cX9_unlike 0 = .ok (.iconst 0, 1) := by decide +kernel
theorem dX9_unlike_1 : decode cX9_unlike 1 = .ok (.istore 5, 2) := by decide +kernel
theorem dX9_unlike_3 : decode cX9_unlike 3 = .ok (.iconst 0, 1) := by decide +kernel
theorem dX9_unlike_4 : decode cX9_unlike 4 = .ok (.istore 6, 2) := by decide +kernel
theorem dX9_unlike_6 : decode cX9_unlike 6 = .ok (.iload 6, 2) := by decide +kernel
theorem dX9_unlike_8 : decode cX9_unlike 8 = .ok (.bipush 12, 2) := by decide +kernel
theorem dX9_unlike_10 : decode cX9_unlike 10 = .ok (.if_icmp .ge 107, 3) := by decide +kernel
theorem dX9_unlike_117 : decode cX9_unlike 117 = .ok (.iload 5, 2) := by decide +kernel
theorem dX9_unlike_119 : decode cX9_unlike 119 = .ok (.ireturn, 1) := by decide +kernel
theorem dX9_unlike_13 : decode cX9_unlike 13 = .ok (.iload 4, 2) := by decide +kernel
theorem dX9_unlike_15 : decode cX9_unlike 15 = .ok (.iload 6, 2) := by decide +kernel
theorem dX9_unlike_17 : decode cX9_unlike 17 = .ok (.ishr, 1) := by decide +kernel
theorem dX9_unlike_18 : decode cX9_unlike 18 = .ok (.iconst 1, 1) := by decide +kernel
theorem dX9_unlike_19 : decode cX9_unlike 19 = .ok (.iand, 1) := by decide +kernel
theorem dX9_unlike_20 : decode cX9_unlike 20 = .ok (.ifCond .ne 6, 3) := by decide +kernel
theorem dX9_unlike_26 : decode cX9_unlike 26 = .ok (.aload_n 0, 1) := by decide +kernel
theorem dX9_unlike_27 : decode cX9_unlike 27 = .ok (.getfield 155, 3) := by decide +kernel
theorem dX9_unlike_30 : decode cX9_unlike 30 = .ok (.iload 5, 2) := by decide +kernel
theorem dX9_unlike_32 : decode cX9_unlike 32 = .ok (.aload_n 0, 1) := by decide +kernel
theorem dX9_unlike_33 : decode cX9_unlike 33 = .ok (.iload_n 1, 1) := by decide +kernel
theorem dX9_unlike_34 : decode cX9_unlike 34 = .ok (.iload 6, 2) := by decide +kernel
theorem dX9_unlike_36 : decode cX9_unlike 36 = .ok (.iconst 4, 1) := by decide +kernel
theorem dX9_unlike_37 : decode cX9_unlike 37 = .ok (.irem, 1) := by decide +kernel
theorem dX9_unlike_38 : decode cX9_unlike 38 = .ok (.iload_n 2, 1) := by decide +kernel
theorem dX9_unlike_39 : decode cX9_unlike 39 = .ok (.iload_n 3, 1) := by decide +kernel
theorem dX9_unlike_40 : decode cX9_unlike 40 = .ok (.iload 6, 2) := by decide +kernel
theorem dX9_unlike_42 : decode cX9_unlike 42 = .ok (.iconst 4, 1) := by decide +kernel
theorem dX9_unlike_43 : decode cX9_unlike 43 = .ok (.idiv, 1) := by decide +kernel
theorem dX9_unlike_44 : decode cX9_unlike 44 = .ok (.invokevirtual 520, 3) := by decide +kernel
theorem dX9_unlike_47 : decode cX9_unlike 47 = .ok (.iastore, 1) := by decide +kernel
theorem dX9_unlike_48 : decode cX9_unlike 48 = .ok (.iconst 1, 1) := by decide +kernel
theorem dX9_unlike_49 : decode cX9_unlike 49 = .ok (.istore 7, 2) := by decide +kernel
theorem dX9_unlike_51 : decode cX9_unlike 51 = .ok (.iconst 0, 1) := by decide +kernel
theorem dX9_unlike_52 : decode cX9_unlike 52 = .ok (.istore 8, 2) := by decide +kernel
theorem dX9_unlike_54 : decode cX9_unlike 54 = .ok (.iload 8, 2) := by decide +kernel
theorem dX9_unlike_56 : decode cX9_unlike 56 = .ok (.iload 5, 2) := by decide +kernel
theorem dX9_unlike_58 : decode cX9_unlike 58 = .ok (.if_icmp .ge 38, 3) := by decide +kernel
theorem dX9_unlike_96 : decode cX9_unlike 96 = .ok (.iload 5, 2) := by decide +kernel
theorem dX9_unlike_98 : decode cX9_unlike 98 = .ok (.iload 7, 2) := by decide +kernel
theorem dX9_unlike_100 : decode cX9_unlike 100 = .ok (.ifCond .eq 7, 3) := by decide +kernel
theorem dX9_unlike_107 : decode cX9_unlike 107 = .ok (.iconst 0, 1) := by decide +kernel
theorem dX9_unlike_108 : decode cX9_unlike 108 = .ok (.iadd, 1) := by decide +kernel
theorem dX9_unlike_109 : decode cX9_unlike 109 = .ok (.istore 5, 2) := by decide +kernel
theorem dX9_unlike_111 : decode cX9_unlike 111 = .ok (.iinc 6 1, 3) := by decide +kernel
theorem dX9_unlike_114 : decode cX9_unlike 114 = .ok (.goto (-108), 3) := by decide +kernel
theorem dX9_unlike_103 : decode cX9_unlike 103 = .ok (.iconst 1, 1) := by decide +kernel
theorem dX9_unlike_104 : decode cX9_unlike 104 = .ok (.goto 4, 3) := by decide +kernel
theorem dX9_unlike_61 : decode cX9_unlike 61 = .ok (.iload 7, 2) := by decide +kernel
theorem dX9_unlike_63 : decode cX9_unlike 63 = .ok (.ifCond .eq 33, 3) := by decide +kernel
theorem dX9_unlike_66 : decode cX9_unlike 66 = .ok (.aload_n 0, 1) := by decide +kernel
theorem dX9_unlike_67 : decode cX9_unlike 67 = .ok (.getfield 155, 3) := by decide +kernel
theorem dX9_unlike_70 : decode cX9_unlike 70 = .ok (.iload 8, 2) := by decide +kernel
theorem dX9_unlike_72 : decode cX9_unlike 72 = .ok (.iaload, 1) := by decide +kernel
theorem dX9_unlike_73 : decode cX9_unlike 73 = .ok (.aload_n 0, 1) := by decide +kernel
theorem dX9_unlike_74 : decode cX9_unlike 74 = .ok (.getfield 155, 3) := by decide +kernel
theorem dX9_unlike_77 : decode cX9_unlike 77 = .ok (.iload 5, 2) := by decide +kernel
theorem dX9_unlike_79 : decode cX9_unlike 79 = .ok (.iaload, 1) := by decide +kernel
theorem dX9_unlike_80 : decode cX9_unlike 80 = .ok (.if_icmp .eq 7, 3) := by decide +kernel
theorem dX9_unlike_87 : decode cX9_unlike 87 = .ok (.iconst 0, 1) := by decide +kernel
theorem dX9_unlike_88 : decode cX9_unlike 88 = .ok (.istore 7, 2) := by decide +kernel
theorem dX9_unlike_90 : decode cX9_unlike 90 = .ok (.iinc 8 1, 3) := by decide +kernel
theorem dX9_unlike_93 : decode cX9_unlike 93 = .ok (.goto (-39), 3) := by decide +kernel
theorem dX9_unlike_83 : decode cX9_unlike 83 = .ok (.iconst 1, 1) := by decide +kernel
theorem dX9_unlike_84 : decode cX9_unlike 84 = .ok (.goto 4, 3) := by decide +kernel
theorem dX9_unlike_23 : decode cX9_unlike 23 = .ok (.goto 88, 3) := by decide +kernel
theorem dX9_parts_0 : decode cX9_parts 0 = .ok (.aload_n 0, 1) := by decide +kernel
theorem dX9_parts_1 : decode cX9_parts 1 = .ok (.iload_n 1, 1) := by decide +kernel
theorem dX9_parts_2 : decode cX9_parts 2 = .ok (.invokevirtual 431, 3) := by decide +kernel
theorem dX9_parts_5 : decode cX9_parts 5 = .ok (.ifCond .eq 23, 3) := by decide +kernel
theorem dX9_parts_8 : decode cX9_parts 8 = .ok (.iload_n 2, 1) := by decide +kernel
theorem dX9_parts_9 : decode cX9_parts 9 = .ok (.iconst 1, 1) := by decide +kernel
theorem dX9_parts_10 : decode cX9_parts 10 = .ok (.sipush 500, 3) := by decide +kernel
theorem dX9_parts_13 : decode cX9_parts 13 = .ok (.invokestatic 389, 3) := by decide +kernel
theorem dX9_parts_16 : decode cX9_parts 16 = .ok (.ifCond .eq 12, 3) := by decide +kernel
theorem dX9_parts_19 : decode cX9_parts 19 = .ok (.iload_n 3, 1) := by decide +kernel
theorem dX9_parts_20 : decode cX9_parts 20 = .ok (.iconst 0, 1) := by decide +kernel
theorem dX9_parts_21 : decode cX9_parts 21 = .ok (.iconst 1, 1) := by decide +kernel
theorem dX9_parts_22 : decode cX9_parts 22 = .ok (.invokestatic 389, 3) := by decide +kernel
theorem dX9_parts_25 : decode cX9_parts 25 = .ok (.ifCond .ne 5, 3) := by decide +kernel
theorem dX9_parts_30 : decode cX9_parts 30 = .ok (.aload_n 0, 1) := by decide +kernel
theorem dX9_parts_31 : decode cX9_parts 31 = .ok (.iload 4, 2) := by decide +kernel
theorem dX9_parts_33 : decode cX9_parts 33 = .ok (.invokevirtual 530, 3) := by decide +kernel
theorem dX9_parts_36 : decode cX9_parts 36 = .ok (.istore 5, 2) := by decide +kernel
theorem dX9_parts_38 : decode cX9_parts 38 = .ok (.iconst (-1), 1) := by decide +kernel
theorem dX9_parts_39 : decode cX9_parts 39 = .ok (.istore 6, 2) := by decide +kernel
theorem dX9_parts_41 : decode cX9_parts 41 = .ok (.iconst 0, 1) := by decide +kernel
theorem dX9_parts_42 : decode cX9_parts 42 = .ok (.istore 7, 2) := by decide +kernel
theorem dX9_parts_44 : decode cX9_parts 44 = .ok (.iconst 0, 1) := by decide +kernel
theorem dX9_parts_45 : decode cX9_parts 45 = .ok (.istore 8, 2) := by decide +kernel
theorem dX9_parts_47 : decode cX9_parts 47 = .ok (.iload 8, 2) := by decide +kernel
theorem dX9_parts_49 : decode cX9_parts 49 = .ok (.aload_n 0, 1) := by decide +kernel
theorem dX9_parts_50 : decode cX9_parts 50 = .ok (.getfield 27, 3) := by decide +kernel
theorem dX9_parts_53 : decode cX9_parts 53 = .ok (.aload_n 0, 1) := by decide +kernel
theorem dX9_parts_54 : decode cX9_parts 54 = .ok (.getfield 291, 3) := by decide +kernel
theorem dX9_parts_57 : decode cX9_parts 57 = .ok (.iaload, 1) := by decide +kernel
theorem dX9_parts_58 : decode cX9_parts 58 = .ok (.if_icmp .ge 39, 3) := by decide +kernel
theorem dX9_parts_97 : decode cX9_parts 97 = .ok (.iload 6, 2) := by decide +kernel
theorem dX9_parts_99 : decode cX9_parts 99 = .ok (.ifCond .lt 7, 3) := by decide +kernel
theorem dX9_parts_106 : decode cX9_parts 106 = .ok (.iload 6, 2) := by decide +kernel
theorem dX9_parts_108 : decode cX9_parts 108 = .ok (.goto 5, 3) := by decide +kernel
theorem dX9_parts_113 : decode cX9_parts 113 = .ok (.ireturn, 1) := by decide +kernel
theorem dX9_parts_102 : decode cX9_parts 102 = .ok (.iload_n 3, 1) := by decide +kernel
theorem dX9_parts_103 : decode cX9_parts 103 = .ok (.ifCond .ne 8, 3) := by decide +kernel
theorem dX9_parts_111 : decode cX9_parts 111 = .ok (.iload 7, 2) := by decide +kernel
theorem dX9_parts_61 : decode cX9_parts 61 = .ok (.aload_n 0, 1) := by decide +kernel
theorem dX9_parts_62 : decode cX9_parts 62 = .ok (.iload_n 1, 1) := by decide +kernel
theorem dX9_parts_63 : decode cX9_parts 63 = .ok (.iload 8, 2) := by decide +kernel
theorem dX9_parts_65 : decode cX9_parts 65 = .ok (.iload_n 2, 1) := by decide +kernel
theorem dX9_parts_66 : decode cX9_parts 66 = .ok (.iload 5, 2) := by decide +kernel
theorem dX9_parts_68 : decode cX9_parts 68 = .ok (.invokevirtual 533, 3) := by decide +kernel
theorem dX9_parts_71 : decode cX9_parts 71 = .ok (.istore 9, 2) := by decide +kernel
theorem dX9_parts_73 : decode cX9_parts 73 = .ok (.iload 9, 2) := by decide +kernel
theorem dX9_parts_75 : decode cX9_parts 75 = .ok (.iload 7, 2) := by decide +kernel
theorem dX9_parts_77 : decode cX9_parts 77 = .ok (.if_icmp .gt 6, 3) := by decide +kernel
theorem dX9_parts_83 : decode cX9_parts 83 = .ok (.iload 8, 2) := by decide +kernel
theorem dX9_parts_85 : decode cX9_parts 85 = .ok (.istore 6, 2) := by decide +kernel
theorem dX9_parts_87 : decode cX9_parts 87 = .ok (.iload 9, 2) := by decide +kernel
theorem dX9_parts_89 : decode cX9_parts 89 = .ok (.istore 7, 2) := by decide +kernel
theorem dX9_parts_91 : decode cX9_parts 91 = .ok (.iinc 8 1, 3) := by decide +kernel
theorem dX9_parts_94 : decode cX9_parts 94 = .ok (.goto (-47), 3) := by decide +kernel
theorem dX9_parts_80 : decode cX9_parts 80 = .ok (.goto 11, 3) := by decide +kernel
theorem dX9_parts_28 : decode cX9_parts 28 = .ok (.iconst (-1), 1) := by decide +kernel
theorem dX9_parts_29 : decode cX9_parts 29 = .ok (.ireturn, 1) := by decide +kernel
theorem dX9_began_0 : decode cX9_began 0 = .ok (.iload_n 1, 1) := by decide +kernel
theorem dX9_began_1 : decode cX9_began 1 = .ok (.iconst 0, 1) := by decide +kernel
theorem dX9_began_2 : decode cX9_began 2 = .ok (.aload_n 0, 1) := by decide +kernel
theorem dX9_began_3 : decode cX9_began 3 = .ok (.getfield 301, 3) := by decide +kernel
theorem dX9_began_6 : decode cX9_began 6 = .ok (.iconst 1, 1) := by decide +kernel
theorem dX9_began_7 : decode cX9_began 7 = .ok (.isub, 1) := by decide +kernel
theorem dX9_began_8 : decode cX9_began 8 = .ok (.invokestatic 389, 3) := by decide +kernel
theorem dX9_began_11 : decode cX9_began 11 = .ok (.ifCond .eq 29, 3) := by decide +kernel
theorem dX9_began_14 : decode cX9_began 14 = .ok (.iload_n 2, 1) := by decide +kernel
theorem dX9_began_15 : decode cX9_began 15 = .ok (.iconst 0, 1) := by decide +kernel
theorem dX9_began_16 : decode cX9_began 16 = .ok (.iconst 4, 1) := by decide +kernel
theorem dX9_began_17 : decode cX9_began 17 = .ok (.aload_n 0, 1) := by decide +kernel
theorem dX9_began_18 : decode cX9_began 18 = .ok (.invokevirtual 524, 3) := by decide +kernel
theorem dX9_began_21 : decode cX9_began 21 = .ok (.imul, 1) := by decide +kernel
theorem dX9_began_22 : decode cX9_began 22 = .ok (.iconst 1, 1) := by decide +kernel
theorem dX9_began_23 : decode cX9_began 23 = .ok (.isub, 1) := by decide +kernel
theorem dX9_began_24 : decode cX9_began 24 = .ok (.invokestatic 389, 3) := by decide +kernel
theorem dX9_began_27 : decode cX9_began 27 = .ok (.ifCond .eq 13, 3) := by decide +kernel
theorem dX9_began_30 : decode cX9_began 30 = .ok (.aload_n 0, 1) := by decide +kernel
theorem dX9_began_31 : decode cX9_began 31 = .ok (.iload_n 2, 1) := by decide +kernel
theorem dX9_began_32 : decode cX9_began 32 = .ok (.iconst 4, 1) := by decide +kernel
theorem dX9_began_33 : decode cX9_began 33 = .ok (.irem, 1) := by decide +kernel
theorem dX9_began_34 : decode cX9_began 34 = .ok (.invokevirtual 434, 3) := by decide +kernel
theorem dX9_began_37 : decode cX9_began 37 = .ok (.ifCond .ne 5, 3) := by decide +kernel
theorem dX9_began_42 : decode cX9_began 42 = .ok (.aload_n 0, 1) := by decide +kernel
theorem dX9_began_43 : decode cX9_began 43 = .ok (.iconst 3, 1) := by decide +kernel
theorem dX9_began_44 : decode cX9_began 44 = .ok (.invokevirtual 471, 3) := by decide +kernel
theorem dX9_began_47 : decode cX9_began 47 = .ok (.aload_n 0, 1) := by decide +kernel
theorem dX9_began_48 : decode cX9_began 48 = .ok (.aload_n 0, 1) := by decide +kernel
theorem dX9_began_49 : decode cX9_began 49 = .ok (.getfield 134, 3) := by decide +kernel
theorem dX9_began_52 : decode cX9_began 52 = .ok (.iload_n 1, 1) := by decide +kernel
theorem dX9_began_53 : decode cX9_began 53 = .ok (.iaload, 1) := by decide +kernel
theorem dX9_began_54 : decode cX9_began 54 = .ok (.iload_n 2, 1) := by decide +kernel
theorem dX9_began_55 : decode cX9_began 55 = .ok (.iconst 4, 1) := by decide +kernel
theorem dX9_began_56 : decode cX9_began 56 = .ok (.irem, 1) := by decide +kernel
theorem dX9_began_57 : decode cX9_began 57 = .ok (.invokevirtual 437, 3) := by decide +kernel
theorem dX9_began_60 : decode cX9_began 60 = .ok (.iconst (-1), 1) := by decide +kernel
theorem dX9_began_61 : decode cX9_began 61 = .ok (.istore_n 3, 1) := by decide +kernel
theorem dX9_began_62 : decode cX9_began 62 = .ok (.iconst 0, 1) := by decide +kernel
theorem dX9_began_63 : decode cX9_began 63 = .ok (.istore 4, 2) := by decide +kernel
theorem dX9_began_65 : decode cX9_began 65 = .ok (.iload 4, 2) := by decide +kernel
theorem dX9_began_67 : decode cX9_began 67 = .ok (.aload_n 0, 1) := by decide +kernel
theorem dX9_began_68 : decode cX9_began 68 = .ok (.getfield 140, 3) := by decide +kernel
theorem dX9_began_71 : decode cX9_began 71 = .ok (.iload_n 1, 1) := by decide +kernel
theorem dX9_began_72 : decode cX9_began 72 = .ok (.iaload, 1) := by decide +kernel
theorem dX9_began_73 : decode cX9_began 73 = .ok (.if_icmp .ge 43, 3) := by decide +kernel
theorem dX9_began_116 : decode cX9_began 116 = .ok (.aload_n 0, 1) := by decide +kernel
theorem dX9_began_117 : decode cX9_began 117 = .ok (.iconst 3, 1) := by decide +kernel
theorem dX9_began_118 : decode cX9_began 118 = .ok (.invokevirtual 478, 3) := by decide +kernel
theorem dX9_began_121 : decode cX9_began 121 = .ok (.iload_n 3, 1) := by decide +kernel
theorem dX9_began_122 : decode cX9_began 122 = .ok (.ireturn, 1) := by decide +kernel
theorem dX9_began_76 : decode cX9_began 76 = .ok (.iload_n 3, 1) := by decide +kernel
theorem dX9_began_77 : decode cX9_began 77 = .ok (.ifCond .ge 39, 3) := by decide +kernel
theorem dX9_began_80 : decode cX9_began 80 = .ok (.aload_n 0, 1) := by decide +kernel
theorem dX9_began_81 : decode cX9_began 81 = .ok (.getfield 396, 3) := by decide +kernel
theorem dX9_began_84 : decode cX9_began 84 = .ok (.ifCond .le 32, 3) := by decide +kernel
theorem dX9_began_87 : decode cX9_began 87 = .ok (.aload_n 0, 1) := by decide +kernel
theorem dX9_began_88 : decode cX9_began 88 = .ok (.aload_n 0, 1) := by decide +kernel
theorem dX9_began_89 : decode cX9_began 89 = .ok (.getfield 137, 3) := by decide +kernel
theorem dX9_began_92 : decode cX9_began 92 = .ok (.iload_n 1, 1) := by decide +kernel
theorem dX9_began_93 : decode cX9_began 93 = .ok (.iaload, 1) := by decide +kernel
theorem dX9_began_94 : decode cX9_began 94 = .ok (.iload 4, 2) := by decide +kernel
theorem dX9_began_96 : decode cX9_began 96 = .ok (.iload_n 2, 1) := by decide +kernel
theorem dX9_began_97 : decode cX9_began 97 = .ok (.iconst 4, 1) := by decide +kernel
theorem dX9_began_98 : decode cX9_began 98 = .ok (.idiv, 1) := by decide +kernel
theorem dX9_began_99 : decode cX9_began 99 = .ok (.invokevirtual 462, 3) := by decide +kernel
theorem dX9_began_102 : decode cX9_began 102 = .ok (.ifCond .le 8, 3) := by decide +kernel
theorem dX9_began_110 : decode cX9_began 110 = .ok (.iinc 4 1, 3) := by decide +kernel
theorem dX9_began_113 : decode cX9_began 113 = .ok (.goto (-48), 3) := by decide +kernel
theorem dX9_began_105 : decode cX9_began 105 = .ok (.iload 4, 2) := by decide +kernel
theorem dX9_began_107 : decode cX9_began 107 = .ok (.iconst 1, 1) := by decide +kernel
theorem dX9_began_108 : decode cX9_began 108 = .ok (.iadd, 1) := by decide +kernel
theorem dX9_began_109 : decode cX9_began 109 = .ok (.istore_n 3, 1) := by decide +kernel
theorem dX9_began_40 : decode cX9_began 40 = .ok (.iconst (-1), 1) := by decide +kernel
theorem dX9_began_41 : decode cX9_began 41 = .ok (.ireturn, 1) := by decide +kernel
theorem dX9_seed_0 : decode cX9_seed 0 = .ok (.aload_n 0, 1) := by decide +kernel
theorem dX9_seed_1 : decode cX9_seed 1 = .ok (.getfield 125, 3) := by decide +kernel
theorem dX9_seed_4 : decode cX9_seed 4 = .ok (.istore_n 2, 1) := by decide +kernel
theorem dX9_seed_5 : decode cX9_seed 5 = .ok (.aload_n 0, 1) := by decide +kernel
theorem dX9_seed_6 : decode cX9_seed 6 = .ok (.iload_n 1, 1) := by decide +kernel
theorem dX9_seed_7 : decode cX9_seed 7 = .ok (.putfield 125, 3) := by decide +kernel
theorem dX9_seed_10 : decode cX9_seed 10 = .ok (.iload_n 2, 1) := by decide +kernel
theorem dX9_seed_11 : decode cX9_seed 11 = .ok (.ireturn, 1) := by decide +kernel
theorem dX9_image_0 : decode cX9_image 0 = .ok (.iload_n 1, 1) := by decide +kernel
theorem dX9_image_1 : decode cX9_image 1 = .ok (.iconst 0, 1) := by decide +kernel
theorem dX9_image_2 : decode cX9_image 2 = .ok (.iconst 2, 1) := by decide +kernel
theorem dX9_image_3 : decode cX9_image 3 = .ok (.invokestatic 389, 3) := by decide +kernel
theorem dX9_image_6 : decode cX9_image 6 = .ok (.ifCond .eq 10, 3) := by decide +kernel
theorem dX9_image_9 : decode cX9_image 9 = .ok (.aload_n 0, 1) := by decide +kernel
theorem dX9_image_10 : decode cX9_image 10 = .ok (.getfield 297, 3) := by decide +kernel
theorem dX9_image_13 : decode cX9_image 13 = .ok (.ifCond .ne 5, 3) := by decide +kernel
theorem dX9_image_18 : decode cX9_image 18 = .ok (.aload_n 0, 1) := by decide +kernel
theorem dX9_image_19 : decode cX9_image 19 = .ok (.iload_n 1, 1) := by decide +kernel
theorem dX9_image_20 : decode cX9_image 20 = .ok (.invokevirtual 471, 3) := by decide +kernel
theorem dX9_image_23 : decode cX9_image 23 = .ok (.aload_n 0, 1) := by decide +kernel
theorem dX9_image_24 : decode cX9_image 24 = .ok (.getfield 396, 3) := by decide +kernel
theorem dX9_image_27 : decode cX9_image 27 = .ok (.ireturn, 1) := by decide +kernel
theorem dX9_image_16 : decode cX9_image 16 = .ok (.iconst (-1), 1) := by decide +kernel
theorem dX9_image_17 : decode cX9_image 17 = .ok (.ireturn, 1) := by decide +kernel
theorem dX9_back_0 : decode cX9_back 0 = .ok (.iload_n 1, 1) := by decide +kernel
theorem dX9_back_1 : decode cX9_back 1 = .ok (.iconst 0, 1) := by decide +kernel
theorem dX9_back_2 : decode cX9_back 2 = .ok (.iconst 2, 1) := by decide +kernel
theorem dX9_back_3 : decode cX9_back 3 = .ok (.invokestatic 389, 3) := by decide +kernel
theorem dX9_back_6 : decode cX9_back 6 = .ok (.ifCond .eq 12, 3) := by decide +kernel
theorem dX9_back_9 : decode cX9_back 9 = .ok (.aload_n 0, 1) := by decide +kernel
theorem dX9_back_10 : decode cX9_back 10 = .ok (.getfield 158, 3) := by decide +kernel
theorem dX9_back_13 : decode cX9_back 13 = .ok (.iload_n 1, 1) := by decide +kernel
theorem dX9_back_14 : decode cX9_back 14 = .ok (.iaload, 1) := by decide +kernel
theorem dX9_back_15 : decode cX9_back 15 = .ok (.ifCond .ge 5, 3) := by decide +kernel
theorem dX9_back_20 : decode cX9_back 20 = .ok (.aload_n 0, 1) := by decide +kernel
theorem dX9_back_21 : decode cX9_back 21 = .ok (.iload_n 1, 1) := by decide +kernel
theorem dX9_back_22 : decode cX9_back 22 = .ok (.invokevirtual 478, 3) := by decide +kernel
theorem dX9_back_25 : decode cX9_back 25 = .ok (.aload_n 0, 1) := by decide +kernel
theorem dX9_back_26 : decode cX9_back 26 = .ok (.iconst 1, 1) := by decide +kernel
theorem dX9_back_27 : decode cX9_back 27 = .ok (.putfield 297, 3) := by decide +kernel
theorem dX9_back_30 : decode cX9_back 30 = .ok (.aload_n 0, 1) := by decide +kernel
theorem dX9_back_31 : decode cX9_back 31 = .ok (.getfield 396, 3) := by decide +kernel
theorem dX9_back_34 : decode cX9_back 34 = .ok (.ireturn, 1) := by decide +kernel
theorem dX9_back_18 : decode cX9_back 18 = .ok (.iconst (-1), 1) := by decide +kernel
theorem dX9_back_19 : decode cX9_back 19 = .ok (.ireturn, 1) := by decide +kernel
theorem dX9_about_0 : decode cX9_about 0 = .ok (.iload_n 1, 1) := by decide +kernel
theorem dX9_about_1 : decode cX9_about 1 = .ok (.tableswitch 135 0 9 #[55, 65, 75, 85, 95, 105, 110, 115, 120, 125], 55) := by decide +kernel
theorem dX9_about_56 : decode cX9_about 56 = .ok (.aload_n 0, 1) := by decide +kernel
theorem dX9_about_57 : decode cX9_about 57 = .ok (.getfield 20, 3) := by decide +kernel
theorem dX9_about_60 : decode cX9_about 60 = .ok (.aload_n 0, 1) := by decide +kernel
theorem dX9_about_61 : decode cX9_about 61 = .ok (.getfield 291, 3) := by decide +kernel
theorem dX9_about_64 : decode cX9_about 64 = .ok (.iaload, 1) := by decide +kernel
theorem dX9_about_65 : decode cX9_about 65 = .ok (.ireturn, 1) := by decide +kernel
theorem dX9_about_66 : decode cX9_about 66 = .ok (.aload_n 0, 1) := by decide +kernel
theorem dX9_about_67 : decode cX9_about 67 = .ok (.getfield 24, 3) := by decide +kernel
theorem dX9_about_70 : decode cX9_about 70 = .ok (.aload_n 0, 1) := by decide +kernel
theorem dX9_about_71 : decode cX9_about 71 = .ok (.getfield 291, 3) := by decide +kernel
theorem dX9_about_74 : decode cX9_about 74 = .ok (.iaload, 1) := by decide +kernel
theorem dX9_about_75 : decode cX9_about 75 = .ok (.ireturn, 1) := by decide +kernel
theorem dX9_about_76 : decode cX9_about 76 = .ok (.aload_n 0, 1) := by decide +kernel
theorem dX9_about_77 : decode cX9_about 77 = .ok (.getfield 27, 3) := by decide +kernel
theorem dX9_about_80 : decode cX9_about 80 = .ok (.aload_n 0, 1) := by decide +kernel
theorem dX9_about_81 : decode cX9_about 81 = .ok (.getfield 291, 3) := by decide +kernel
theorem dX9_about_84 : decode cX9_about 84 = .ok (.iaload, 1) := by decide +kernel
theorem dX9_about_85 : decode cX9_about 85 = .ok (.ireturn, 1) := by decide +kernel
theorem dX9_about_86 : decode cX9_about 86 = .ok (.aload_n 0, 1) := by decide +kernel
theorem dX9_about_87 : decode cX9_about 87 = .ok (.getfield 30, 3) := by decide +kernel
theorem dX9_about_90 : decode cX9_about 90 = .ok (.aload_n 0, 1) := by decide +kernel
theorem dX9_about_91 : decode cX9_about 91 = .ok (.getfield 291, 3) := by decide +kernel
theorem dX9_about_94 : decode cX9_about 94 = .ok (.iaload, 1) := by decide +kernel
theorem dX9_about_95 : decode cX9_about 95 = .ok (.ireturn, 1) := by decide +kernel
theorem dX9_about_96 : decode cX9_about 96 = .ok (.aload_n 0, 1) := by decide +kernel
theorem dX9_about_97 : decode cX9_about 97 = .ok (.getfield 33, 3) := by decide +kernel
theorem dX9_about_100 : decode cX9_about 100 = .ok (.aload_n 0, 1) := by decide +kernel
theorem dX9_about_101 : decode cX9_about 101 = .ok (.getfield 291, 3) := by decide +kernel
theorem dX9_about_104 : decode cX9_about 104 = .ok (.iaload, 1) := by decide +kernel
theorem dX9_about_105 : decode cX9_about 105 = .ok (.ireturn, 1) := by decide +kernel
theorem dX9_about_106 : decode cX9_about 106 = .ok (.aload_n 0, 1) := by decide +kernel
theorem dX9_about_107 : decode cX9_about 107 = .ok (.getfield 301, 3) := by decide +kernel
theorem dX9_about_110 : decode cX9_about 110 = .ok (.ireturn, 1) := by decide +kernel
theorem dX9_about_111 : decode cX9_about 111 = .ok (.aload_n 0, 1) := by decide +kernel
theorem dX9_about_112 : decode cX9_about 112 = .ok (.getfield 517, 3) := by decide +kernel
theorem dX9_about_115 : decode cX9_about 115 = .ok (.ireturn, 1) := by decide +kernel
theorem dX9_about_116 : decode cX9_about 116 = .ok (.aload_n 0, 1) := by decide +kernel
theorem dX9_about_117 : decode cX9_about 117 = .ok (.getfield 288, 3) := by decide +kernel
theorem dX9_about_120 : decode cX9_about 120 = .ok (.ireturn, 1) := by decide +kernel
theorem dX9_about_121 : decode cX9_about 121 = .ok (.aload_n 0, 1) := by decide +kernel
theorem dX9_about_122 : decode cX9_about 122 = .ok (.getfield 125, 3) := by decide +kernel
theorem dX9_about_125 : decode cX9_about 125 = .ok (.ireturn, 1) := by decide +kernel
theorem dX9_about_126 : decode cX9_about 126 = .ok (.aload_n 0, 1) := by decide +kernel
theorem dX9_about_127 : decode cX9_about 127 = .ok (.getfield 42, 3) := by decide +kernel
theorem dX9_about_130 : decode cX9_about 130 = .ok (.aload_n 0, 1) := by decide +kernel
theorem dX9_about_131 : decode cX9_about 131 = .ok (.getfield 291, 3) := by decide +kernel
theorem dX9_about_134 : decode cX9_about 134 = .ok (.iaload, 1) := by decide +kernel
theorem dX9_about_135 : decode cX9_about 135 = .ok (.ireturn, 1) := by decide +kernel
theorem dX9_about_136 : decode cX9_about 136 = .ok (.iconst (-1), 1) := by decide +kernel
theorem dX9_about_137 : decode cX9_about 137 = .ok (.ireturn, 1) := by decide +kernel
theorem dX9_feed_0 : decode cX9_feed 0 = .ok (.aload_n 0, 1) := by decide +kernel
theorem dX9_feed_1 : decode cX9_feed 1 = .ok (.getfield 288, 3) := by decide +kernel
theorem dX9_feed_4 : decode cX9_feed 4 = .ok (.bipush 20, 2) := by decide +kernel
theorem dX9_feed_6 : decode cX9_feed 6 = .ok (.iadd, 1) := by decide +kernel
theorem dX9_feed_7 : decode cX9_feed 7 = .ok (.sipush 1600, 3) := by decide +kernel
theorem dX9_feed_10 : decode cX9_feed 10 = .ok (.if_icmp .le 5, 3) := by decide +kernel
theorem dX9_feed_15 : decode cX9_feed 15 = .ok (.iconst 0, 1) := by decide +kernel
theorem dX9_feed_16 : decode cX9_feed 16 = .ok (.istore 6, 2) := by decide +kernel
theorem dX9_feed_18 : decode cX9_feed 18 = .ok (.iload 6, 2) := by decide +kernel
theorem dX9_feed_20 : decode cX9_feed 20 = .ok (.bipush 20, 2) := by decide +kernel
theorem dX9_feed_22 : decode cX9_feed 22 = .ok (.if_icmp .ge 83, 3) := by decide +kernel
theorem dX9_feed_105 : decode cX9_feed 105 = .ok (.aload_n 0, 1) := by decide +kernel
theorem dX9_feed_106 : decode cX9_feed 106 = .ok (.dup, 1) := by decide +kernel
theorem dX9_feed_107 : decode cX9_feed 107 = .ok (.getfield 288, 3) := by decide +kernel
theorem dX9_feed_110 : decode cX9_feed 110 = .ok (.bipush 20, 2) := by decide +kernel
theorem dX9_feed_112 : decode cX9_feed 112 = .ok (.iadd, 1) := by decide +kernel
theorem dX9_feed_113 : decode cX9_feed 113 = .ok (.putfield 288, 3) := by decide +kernel
theorem dX9_feed_116 : decode cX9_feed 116 = .ok (.aload_n 0, 1) := by decide +kernel
theorem dX9_feed_117 : decode cX9_feed 117 = .ok (.getfield 288, 3) := by decide +kernel
theorem dX9_feed_120 : decode cX9_feed 120 = .ok (.ireturn, 1) := by decide +kernel
theorem dX9_feed_25 : decode cX9_feed 25 = .ok (.iload 6, 2) := by decide +kernel
theorem dX9_feed_27 : decode cX9_feed 27 = .ok (.iconst 4, 1) := by decide +kernel
theorem dX9_feed_28 : decode cX9_feed 28 = .ok (.if_icmp .ge 7, 3) := by decide +kernel
theorem dX9_feed_35 : decode cX9_feed 35 = .ok (.iload 6, 2) := by decide +kernel
theorem dX9_feed_37 : decode cX9_feed 37 = .ok (.bipush 8, 2) := by decide +kernel
theorem dX9_feed_39 : decode cX9_feed 39 = .ok (.if_icmp .ge 7, 3) := by decide +kernel
theorem dX9_feed_46 : decode cX9_feed 46 = .ok (.iload 6, 2) := by decide +kernel
theorem dX9_feed_48 : decode cX9_feed 48 = .ok (.bipush 12, 2) := by decide +kernel
theorem dX9_feed_50 : decode cX9_feed 50 = .ok (.if_icmp .ge 7, 3) := by decide +kernel
theorem dX9_feed_57 : decode cX9_feed 57 = .ok (.iload 6, 2) := by decide +kernel
theorem dX9_feed_59 : decode cX9_feed 59 = .ok (.bipush 16, 2) := by decide +kernel
theorem dX9_feed_61 : decode cX9_feed 61 = .ok (.if_icmp .ge 8, 3) := by decide +kernel
theorem dX9_feed_69 : decode cX9_feed 69 = .ok (.iload 5, 2) := by decide +kernel
theorem dX9_feed_71 : decode cX9_feed 71 = .ok (.istore 7, 2) := by decide +kernel
theorem dX9_feed_73 : decode cX9_feed 73 = .ok (.aload_n 0, 1) := by decide +kernel
theorem dX9_feed_74 : decode cX9_feed 74 = .ok (.getfield 7, 3) := by decide +kernel
theorem dX9_feed_77 : decode cX9_feed 77 = .ok (.aload_n 0, 1) := by decide +kernel
theorem dX9_feed_78 : decode cX9_feed 78 = .ok (.getfield 288, 3) := by decide +kernel
theorem dX9_feed_81 : decode cX9_feed 81 = .ok (.iload 6, 2) := by decide +kernel
theorem dX9_feed_83 : decode cX9_feed 83 = .ok (.iadd, 1) := by decide +kernel
theorem dX9_feed_84 : decode cX9_feed 84 = .ok (.iload 7, 2) := by decide +kernel
theorem dX9_feed_86 : decode cX9_feed 86 = .ok (.bipush 24, 2) := by decide +kernel
theorem dX9_feed_88 : decode cX9_feed 88 = .ok (.bipush 8, 2) := by decide +kernel
theorem dX9_feed_90 : decode cX9_feed 90 = .ok (.iload 6, 2) := by decide +kernel
theorem dX9_feed_92 : decode cX9_feed 92 = .ok (.iconst 3, 1) := by decide +kernel
theorem dX9_feed_93 : decode cX9_feed 93 = .ok (.iand, 1) := by decide +kernel
theorem dX9_feed_94 : decode cX9_feed 94 = .ok (.imul, 1) := by decide +kernel
theorem dX9_feed_95 : decode cX9_feed 95 = .ok (.isub, 1) := by decide +kernel
theorem dX9_feed_96 : decode cX9_feed 96 = .ok (.ishr, 1) := by decide +kernel
theorem dX9_feed_97 : decode cX9_feed 97 = .ok (.i2b, 1) := by decide +kernel
theorem dX9_feed_98 : decode cX9_feed 98 = .ok (.bastore, 1) := by decide +kernel
theorem dX9_feed_99 : decode cX9_feed 99 = .ok (.iinc 6 1, 3) := by decide +kernel
theorem dX9_feed_102 : decode cX9_feed 102 = .ok (.goto (-84), 3) := by decide +kernel
theorem dX9_feed_64 : decode cX9_feed 64 = .ok (.iload 4, 2) := by decide +kernel
theorem dX9_feed_66 : decode cX9_feed 66 = .ok (.goto 5, 3) := by decide +kernel
theorem dX9_feed_53 : decode cX9_feed 53 = .ok (.iload_n 3, 1) := by decide +kernel
theorem dX9_feed_54 : decode cX9_feed 54 = .ok (.goto 17, 3) := by decide +kernel
theorem dX9_feed_42 : decode cX9_feed 42 = .ok (.iload_n 2, 1) := by decide +kernel
theorem dX9_feed_43 : decode cX9_feed 43 = .ok (.goto 28, 3) := by decide +kernel
theorem dX9_feed_31 : decode cX9_feed 31 = .ok (.iload_n 1, 1) := by decide +kernel
theorem dX9_feed_32 : decode cX9_feed 32 = .ok (.goto 39, 3) := by decide +kernel
theorem dX9_feed_13 : decode cX9_feed 13 = .ok (.iconst (-1), 1) := by decide +kernel
theorem dX9_feed_14 : decode cX9_feed 14 = .ok (.ireturn, 1) := by decide +kernel
theorem dX9_end_0 : decode cX9_end 0 = .ok (.iload_n 1, 1) := by decide +kernel
theorem dX9_end_1 : decode cX9_end 1 = .ok (.ifCond .lt 11, 3) := by decide +kernel
theorem dX9_end_12 : decode cX9_end 12 = .ok (.iconst (-1), 1) := by decide +kernel
theorem dX9_end_13 : decode cX9_end 13 = .ok (.ireturn, 1) := by decide +kernel
theorem dX9_end_4 : decode cX9_end 4 = .ok (.iload_n 1, 1) := by decide +kernel
theorem dX9_end_5 : decode cX9_end 5 = .ok (.aload_n 0, 1) := by decide +kernel
theorem dX9_end_6 : decode cX9_end 6 = .ok (.getfield 288, 3) := by decide +kernel
theorem dX9_end_9 : decode cX9_end 9 = .ok (.if_icmp .le 5, 3) := by decide +kernel
theorem dX9_end_14 : decode cX9_end 14 = .ok (.aload_n 0, 1) := by decide +kernel
theorem dX9_end_15 : decode cX9_end 15 = .ok (.iload_n 1, 1) := by decide +kernel
theorem dX9_end_16 : decode cX9_end 16 = .ok (.putfield 288, 3) := by decide +kernel
theorem dX9_end_19 : decode cX9_end 19 = .ok (.iload_n 1, 1) := by decide +kernel
theorem dX9_end_20 : decode cX9_end 20 = .ok (.ireturn, 1) := by decide +kernel
theorem dX9_fault_0 : decode cX9_fault 0 = .ok (.iload_n 1, 1) := by decide +kernel
theorem dX9_fault_1 : decode cX9_fault 1 = .ok (.ifCond .ne 10, 3) := by decide +kernel
theorem dX9_fault_11 : decode cX9_fault 11 = .ok (.iload_n 1, 1) := by decide +kernel
theorem dX9_fault_12 : decode cX9_fault 12 = .ok (.iconst 1, 1) := by decide +kernel
theorem dX9_fault_13 : decode cX9_fault 13 = .ok (.if_icmp .ne 10, 3) := by decide +kernel
theorem dX9_fault_23 : decode cX9_fault 23 = .ok (.iconst (-1), 1) := by decide +kernel
theorem dX9_fault_24 : decode cX9_fault 24 = .ok (.ireturn, 1) := by decide +kernel
theorem dX9_fault_16 : decode cX9_fault 16 = .ok (.aload_n 0, 1) := by decide +kernel
theorem dX9_fault_17 : decode cX9_fault 17 = .ok (.getfield 16, 3) := by decide +kernel
theorem dX9_fault_20 : decode cX9_fault 20 = .ok (.goto 4, 3) := by decide +kernel
theorem dX9_fault_4 : decode cX9_fault 4 = .ok (.aload_n 0, 1) := by decide +kernel
theorem dX9_fault_5 : decode cX9_fault 5 = .ok (.getfield 173, 3) := by decide +kernel
theorem dX9_fault_8 : decode cX9_fault 8 = .ok (.goto 16, 3) := by decide +kernel
theorem dX9_untell_0 : decode cX9_untell 0 = .ok (.iload_n 1, 1) := by decide +kernel
theorem dX9_untell_1 : decode cX9_untell 1 = .ok (.iconst 0, 1) := by decide +kernel
theorem dX9_untell_2 : decode cX9_untell 2 = .ok (.aload_n 0, 1) := by decide +kernel
theorem dX9_untell_3 : decode cX9_untell 3 = .ok (.getfield 301, 3) := by decide +kernel
theorem dX9_untell_6 : decode cX9_untell 6 = .ok (.iconst 1, 1) := by decide +kernel
theorem dX9_untell_7 : decode cX9_untell 7 = .ok (.isub, 1) := by decide +kernel
theorem dX9_untell_8 : decode cX9_untell 8 = .ok (.invokestatic 389, 3) := by decide +kernel
theorem dX9_untell_11 : decode cX9_untell 11 = .ok (.ifCond .eq 12, 3) := by decide +kernel
theorem dX9_untell_14 : decode cX9_untell 14 = .ok (.aload_n 0, 1) := by decide +kernel
theorem dX9_untell_15 : decode cX9_untell 15 = .ok (.getfield 152, 3) := by decide +kernel
theorem dX9_untell_18 : decode cX9_untell 18 = .ok (.iload_n 1, 1) := by decide +kernel
theorem dX9_untell_19 : decode cX9_untell 19 = .ok (.iaload, 1) := by decide +kernel
theorem dX9_untell_20 : decode cX9_untell 20 = .ok (.ifCond .lt 5, 3) := by decide +kernel
theorem dX9_untell_25 : decode cX9_untell 25 = .ok (.aload_n 0, 1) := by decide +kernel
theorem dX9_untell_26 : decode cX9_untell 26 = .ok (.getfield 152, 3) := by decide +kernel
theorem dX9_untell_29 : decode cX9_untell 29 = .ok (.iload_n 1, 1) := by decide +kernel
theorem dX9_untell_30 : decode cX9_untell 30 = .ok (.aload_n 0, 1) := by decide +kernel
theorem dX9_untell_31 : decode cX9_untell 31 = .ok (.getfield 517, 3) := by decide +kernel
theorem dX9_untell_34 : decode cX9_untell 34 = .ok (.iastore, 1) := by decide +kernel
theorem dX9_untell_35 : decode cX9_untell 35 = .ok (.iconst 1, 1) := by decide +kernel
theorem dX9_untell_36 : decode cX9_untell 36 = .ok (.ireturn, 1) := by decide +kernel
theorem dX9_untell_23 : decode cX9_untell 23 = .ok (.iconst 0, 1) := by decide +kernel
theorem dX9_untell_24 : decode cX9_untell 24 = .ok (.ireturn, 1) := by decide +kernel
theorem dX9_film_0 : decode cX9_film 0 = .ok (.aload_n 0, 1) := by decide +kernel
theorem dX9_film_1 : decode cX9_film 1 = .ok (.iload_n 1, 1) := by decide +kernel
theorem dX9_film_2 : decode cX9_film 2 = .ok (.invokevirtual 431, 3) := by decide +kernel
theorem dX9_film_5 : decode cX9_film 5 = .ok (.ifCond .eq 55, 3) := by decide +kernel
theorem dX9_film_8 : decode cX9_film 8 = .ok (.aload_n 0, 1) := by decide +kernel
theorem dX9_film_9 : decode cX9_film 9 = .ok (.iload_n 2, 1) := by decide +kernel
theorem dX9_film_10 : decode cX9_film 10 = .ok (.invokevirtual 455, 3) := by decide +kernel
theorem dX9_film_13 : decode cX9_film 13 = .ok (.ifCond .eq 47, 3) := by decide +kernel
theorem dX9_film_16 : decode cX9_film 16 = .ok (.iload_n 3, 1) := by decide +kernel
theorem dX9_film_17 : decode cX9_film 17 = .ok (.iconst 1, 1) := by decide +kernel
theorem dX9_film_18 : decode cX9_film 18 = .ok (.sipush 500, 3) := by decide +kernel
theorem dX9_film_21 : decode cX9_film 21 = .ok (.invokestatic 389, 3) := by decide +kernel
theorem dX9_film_24 : decode cX9_film 24 = .ok (.ifCond .eq 36, 3) := by decide +kernel
theorem dX9_film_27 : decode cX9_film 27 = .ok (.iload 4, 2) := by decide +kernel
theorem dX9_film_29 : decode cX9_film 29 = .ok (.iconst 0, 1) := by decide +kernel
theorem dX9_film_30 : decode cX9_film 30 = .ok (.sipush 29999, 3) := by decide +kernel
theorem dX9_film_33 : decode cX9_film 33 = .ok (.invokestatic 389, 3) := by decide +kernel
theorem dX9_film_36 : decode cX9_film 36 = .ok (.ifCond .eq 24, 3) := by decide +kernel
theorem dX9_film_39 : decode cX9_film 39 = .ok (.iload 5, 2) := by decide +kernel
theorem dX9_film_41 : decode cX9_film 41 = .ok (.iconst 0, 1) := by decide +kernel
theorem dX9_film_42 : decode cX9_film 42 = .ok (.sipush 999, 3) := by decide +kernel
theorem dX9_film_45 : decode cX9_film 45 = .ok (.invokestatic 389, 3) := by decide +kernel
theorem dX9_film_48 : decode cX9_film 48 = .ok (.ifCond .eq 12, 3) := by decide +kernel
theorem dX9_film_51 : decode cX9_film 51 = .ok (.aload_n 0, 1) := by decide +kernel
theorem dX9_film_52 : decode cX9_film 52 = .ok (.getfield 301, 3) := by decide +kernel
theorem dX9_film_55 : decode cX9_film 55 = .ok (.bipush 40, 2) := by decide +kernel
theorem dX9_film_57 : decode cX9_film 57 = .ok (.if_icmp .ne 5, 3) := by decide +kernel
theorem dX9_film_62 : decode cX9_film 62 = .ok (.aload_n 0, 1) := by decide +kernel
theorem dX9_film_63 : decode cX9_film 63 = .ok (.getfield 134, 3) := by decide +kernel
theorem dX9_film_66 : decode cX9_film 66 = .ok (.aload_n 0, 1) := by decide +kernel
theorem dX9_film_67 : decode cX9_film 67 = .ok (.getfield 301, 3) := by decide +kernel
theorem dX9_film_70 : decode cX9_film 70 = .ok (.iload_n 1, 1) := by decide +kernel
theorem dX9_film_71 : decode cX9_film 71 = .ok (.iastore, 1) := by decide +kernel
theorem dX9_film_72 : decode cX9_film 72 = .ok (.aload_n 0, 1) := by decide +kernel
theorem dX9_film_73 : decode cX9_film 73 = .ok (.getfield 137, 3) := by decide +kernel
theorem dX9_film_76 : decode cX9_film 76 = .ok (.aload_n 0, 1) := by decide +kernel
theorem dX9_film_77 : decode cX9_film 77 = .ok (.getfield 301, 3) := by decide +kernel
theorem dX9_film_80 : decode cX9_film 80 = .ok (.iload_n 2, 1) := by decide +kernel
theorem dX9_film_81 : decode cX9_film 81 = .ok (.iastore, 1) := by decide +kernel
theorem dX9_film_82 : decode cX9_film 82 = .ok (.aload_n 0, 1) := by decide +kernel
theorem dX9_film_83 : decode cX9_film 83 = .ok (.getfield 140, 3) := by decide +kernel
theorem dX9_film_86 : decode cX9_film 86 = .ok (.aload_n 0, 1) := by decide +kernel
theorem dX9_film_87 : decode cX9_film 87 = .ok (.getfield 301, 3) := by decide +kernel
theorem dX9_film_90 : decode cX9_film 90 = .ok (.iload_n 3, 1) := by decide +kernel
theorem dX9_film_91 : decode cX9_film 91 = .ok (.iastore, 1) := by decide +kernel
theorem dX9_film_92 : decode cX9_film 92 = .ok (.aload_n 0, 1) := by decide +kernel
theorem dX9_film_93 : decode cX9_film 93 = .ok (.getfield 143, 3) := by decide +kernel
theorem dX9_film_96 : decode cX9_film 96 = .ok (.aload_n 0, 1) := by decide +kernel
theorem dX9_film_97 : decode cX9_film 97 = .ok (.getfield 301, 3) := by decide +kernel
theorem dX9_film_100 : decode cX9_film 100 = .ok (.iload 4, 2) := by decide +kernel
theorem dX9_film_102 : decode cX9_film 102 = .ok (.iastore, 1) := by decide +kernel
theorem dX9_film_103 : decode cX9_film 103 = .ok (.aload_n 0, 1) := by decide +kernel
theorem dX9_film_104 : decode cX9_film 104 = .ok (.getfield 146, 3) := by decide +kernel
theorem dX9_film_107 : decode cX9_film 107 = .ok (.aload_n 0, 1) := by decide +kernel
theorem dX9_film_108 : decode cX9_film 108 = .ok (.getfield 301, 3) := by decide +kernel
theorem dX9_film_111 : decode cX9_film 111 = .ok (.iload 5, 2) := by decide +kernel
theorem dX9_film_113 : decode cX9_film 113 = .ok (.iastore, 1) := by decide +kernel
theorem dX9_film_114 : decode cX9_film 114 = .ok (.aload_n 0, 1) := by decide +kernel
theorem dX9_film_115 : decode cX9_film 115 = .ok (.getfield 149, 3) := by decide +kernel
theorem dX9_film_118 : decode cX9_film 118 = .ok (.aload_n 0, 1) := by decide +kernel
theorem dX9_film_119 : decode cX9_film 119 = .ok (.getfield 301, 3) := by decide +kernel
theorem dX9_film_122 : decode cX9_film 122 = .ok (.aload_n 0, 1) := by decide +kernel
theorem dX9_film_123 : decode cX9_film 123 = .ok (.getfield 517, 3) := by decide +kernel
theorem dX9_film_126 : decode cX9_film 126 = .ok (.iastore, 1) := by decide +kernel
theorem dX9_film_127 : decode cX9_film 127 = .ok (.aload_n 0, 1) := by decide +kernel
theorem dX9_film_128 : decode cX9_film 128 = .ok (.getfield 152, 3) := by decide +kernel
theorem dX9_film_131 : decode cX9_film 131 = .ok (.aload_n 0, 1) := by decide +kernel
theorem dX9_film_132 : decode cX9_film 132 = .ok (.getfield 301, 3) := by decide +kernel
theorem dX9_film_135 : decode cX9_film 135 = .ok (.iconst (-1), 1) := by decide +kernel
theorem dX9_film_136 : decode cX9_film 136 = .ok (.iastore, 1) := by decide +kernel
theorem dX9_film_137 : decode cX9_film 137 = .ok (.aload_n 0, 1) := by decide +kernel
theorem dX9_film_138 : decode cX9_film 138 = .ok (.dup, 1) := by decide +kernel
theorem dX9_film_139 : decode cX9_film 139 = .ok (.getfield 301, 3) := by decide +kernel
theorem dX9_film_142 : decode cX9_film 142 = .ok (.iconst 1, 1) := by decide +kernel
theorem dX9_film_143 : decode cX9_film 143 = .ok (.iadd, 1) := by decide +kernel
theorem dX9_film_144 : decode cX9_film 144 = .ok (.putfield 301, 3) := by decide +kernel
theorem dX9_film_147 : decode cX9_film 147 = .ok (.aload_n 0, 1) := by decide +kernel
theorem dX9_film_148 : decode cX9_film 148 = .ok (.getfield 301, 3) := by decide +kernel
theorem dX9_film_151 : decode cX9_film 151 = .ok (.iconst 1, 1) := by decide +kernel
theorem dX9_film_152 : decode cX9_film 152 = .ok (.isub, 1) := by decide +kernel
theorem dX9_film_153 : decode cX9_film 153 = .ok (.ireturn, 1) := by decide +kernel
theorem dX9_film_60 : decode cX9_film 60 = .ok (.iconst (-1), 1) := by decide +kernel
theorem dX9_film_61 : decode cX9_film 61 = .ok (.ireturn, 1) := by decide +kernel
