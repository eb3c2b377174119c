theorem dX8_later_0 : decode cX8_later 0 = .ok (.iload_n 1, 1) := by decide +kernel
theorem dX8_later_1 : decode cX8_later 1 = .ok (.iconst 0, 1) := by decide +kernel
theorem dX8_later_2 : decode cX8_later 2 = .ok (.sipush 1000, 3) := by decide +kernel
theorem dX8_later_5 : decode cX8_later 5 = .ok (.invokestatic 150, 3) := by decide +kernel
theorem dX8_later_8 : decode cX8_later 8 = .ok (.ifCond .eq 14, 3) := by decide +kernel
theorem dX8_later_11 : decode cX8_later 11 = .ok (.aload_n 0, 1) := by decide +kernel
theorem dX8_later_12 : decode cX8_later 12 = .ok (.getfield 75, 3) := by decide +kernel
theorem dX8_later_15 : decode cX8_later 15 = .ok (.iload_n 1, 1) := by decide +kernel
theorem dX8_later_16 : decode cX8_later 16 = .ok (.iadd, 1) := by decide +kernel
theorem dX8_later_17 : decode cX8_later 17 = .ok (.ldc 157, 2) := by decide +kernel
theorem dX8_later_19 : decode cX8_later 19 = .ok (.if_icmp .le 5, 3) := by decide +kernel
theorem dX8_later_24 : decode cX8_later 24 = .ok (.aload_n 0, 1) := by decide +kernel
theorem dX8_later_25 : decode cX8_later 25 = .ok (.dup, 1) := by decide +kernel
theorem dX8_later_26 : decode cX8_later 26 = .ok (.getfield 75, 3) := by decide +kernel
theorem dX8_later_29 : decode cX8_later 29 = .ok (.iload_n 1, 1) := by decide +kernel
theorem dX8_later_30 : decode cX8_later 30 = .ok (.iadd, 1) := by decide +kernel
theorem dX8_later_31 : decode cX8_later 31 = .ok (.putfield 75, 3) := by decide +kernel
theorem dX8_later_34 : decode cX8_later 34 = .ok (.aload_n 0, 1) := by decide +kernel
theorem dX8_later_35 : decode cX8_later 35 = .ok (.getfield 75, 3) := by decide +kernel
theorem dX8_later_38 : decode cX8_later 38 = .ok (.ireturn, 1) := by decide +kernel
theorem dX8_later_22 : decode cX8_later 22 = .ok (.iconst (-1), 1) := by decide +kernel
theorem dX8_later_23 : decode cX8_later 23 = .ok (.ireturn, 1) := by decide +kernel
theorem dX9_later_0 : decode cX9_later 0 = .ok (.iload_n 1, 1) := by decide +kernel
theorem dX9_later_1 : decode cX9_later 1 = .ok (.iconst 0, 1) := by decide +kernel
theorem dX9_later_2 : decode cX9_later 2 = .ok (.sipush 1000, 3) := by decide +kernel
theorem dX9_later_5 : decode cX9_later 5 = .ok (.invokestatic 389, 3) := by decide +kernel
theorem dX9_later_8 : decode cX9_later 8 = .ok (.ifCond .eq 15, 3) := by decide +kernel
theorem dX9_later_11 : decode cX9_later 11 = .ok (.aload_n 0, 1) := by decide +kernel
theorem dX9_later_12 : decode cX9_later 12 = .ok (.getfield 517, 3) := by decide +kernel
theorem dX9_later_15 : decode cX9_later 15 = .ok (.iload_n 1, 1) := by decide +kernel
theorem dX9_later_16 : decode cX9_later 16 = .ok (.iadd, 1) := by decide +kernel
theorem dX9_later_17 : decode cX9_later 17 = .ok (.ldc_w 458, 3) := by decide +kernel
theorem dX9_later_20 : decode cX9_later 20 = .ok (.if_icmp .le 5, 3) := by decide +kernel
theorem dX9_later_25 : decode cX9_later 25 = .ok (.aload_n 0, 1) := by decide +kernel
theorem dX9_later_26 : decode cX9_later 26 = .ok (.dup, 1) := by decide +kernel
theorem dX9_later_27 : decode cX9_later 27 = .ok (.getfield 517, 3) := by decide +kernel
theorem dX9_later_30 : decode cX9_later 30 = .ok (.iload_n 1, 1) := by decide +kernel
theorem dX9_later_31 : decode cX9_later 31 = .ok (.iadd, 1) := by decide +kernel
theorem dX9_later_32 : decode cX9_later 32 = .ok (.putfield 517, 3) := by decide +kernel
theorem dX9_later_35 : decode cX9_later 35 = .ok (.aload_n 0, 1) := by decide +kernel
theorem dX9_later_36 : decode cX9_later 36 = .ok (.getfield 517, 3) := by decide +kernel
theorem dX9_later_39 : decode cX9_later 39 = .ok (.ireturn, 1) := by decide +kernel
theorem dX9_later_23 : decode cX9_later 23 = .ok (.iconst (-1), 1) := by decide +kernel
theorem dX9_later_24 : decode cX9_later 24 = .ok (.ireturn, 1) := by decide +kernel
