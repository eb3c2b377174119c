theorem dX8_within_0 : decode cX8_within 0 = .ok (.iload_n 0, 1) := by decide +kernel
theorem dX8_within_1 : decode cX8_within 1 = .ok (.iload_n 1, 1) := by decide +kernel
theorem dX8_within_2 : decode cX8_within 2 = .ok (.if_icmp .lt 12, 3) := by decide +kernel
theorem dX8_within_14 : decode cX8_within 14 = .ok (.iconst 0, 1) := by decide +kernel
theorem dX8_within_15 : decode cX8_within 15 = .ok (.ireturn, 1) := by decide +kernel
theorem dX8_within_5 : decode cX8_within 5 = .ok (.iload_n 0, 1) := by decide +kernel
theorem dX8_within_6 : decode cX8_within 6 = .ok (.iload_n 2, 1) := by decide +kernel
theorem dX8_within_7 : decode cX8_within 7 = .ok (.if_icmp .gt 7, 3) := by decide +kernel
theorem dX8_within_10 : decode cX8_within 10 = .ok (.iconst 1, 1) := by decide +kernel
theorem dX8_within_11 : decode cX8_within 11 = .ok (.goto 4, 3) := by decide +kernel
theorem dX9_isIn_0 : decode cX9_isIn 0 = .ok (.iload_n 0, 1) := by decide +kernel
theorem dX9_isIn_1 : decode cX9_isIn 1 = .ok (.iload_n 1, 1) := by decide +kernel
theorem dX9_isIn_2 : decode cX9_isIn 2 = .ok (.if_icmp .lt 12, 3) := by decide +kernel
theorem dX9_isIn_14 : decode cX9_isIn 14 = .ok (.iconst 0, 1) := by decide +kernel
theorem dX9_isIn_15 : decode cX9_isIn 15 = .ok (.ireturn, 1) := by decide +kernel
theorem dX9_isIn_5 : decode cX9_isIn 5 = .ok (.iload_n 0, 1) := by decide +kernel
theorem dX9_isIn_6 : decode cX9_isIn 6 = .ok (.iload_n 2, 1) := by decide +kernel
theorem dX9_isIn_7 : decode cX9_isIn 7 = .ok (.if_icmp .gt 7, 3) := by decide +kernel
theorem dX9_isIn_10 : decode cX9_isIn 10 = .ok (.iconst 1, 1) := by decide +kernel
theorem dX9_isIn_11 : decode cX9_isIn 11 = .ok (.goto 4, 3) := by decide +kernel
theorem dX5_has_0 : decode cX5_has 0 = .ok (.iload_n 2, 1) := by decide +kernel
theorem dX5_has_1 : decode cX5_has 1 = .ok (.ifCond .lt 17, 3) := by decide +kernel
theorem dX5_has_18 : decode cX5_has 18 = .ok (.iconst 0, 1) := by decide +kernel
theorem dX5_has_19 : decode cX5_has 19 = .ok (.ireturn, 1) := by decide +kernel
theorem dX5_has_4 : decode cX5_has 4 = .ok (.iload_n 2, 1) := by decide +kernel
theorem dX5_has_5 : decode cX5_has 5 = .ok (.aload_n 0, 1) := by decide +kernel
theorem dX5_has_6 : decode cX5_has 6 = .ok (.getfield 9, 3) := by decide +kernel
theorem dX5_has_9 : decode cX5_has 9 = .ok (.iload_n 1, 1) := by decide +kernel
theorem dX5_has_10 : decode cX5_has 10 = .ok (.iaload, 1) := by decide +kernel
theorem dX5_has_11 : decode cX5_has 11 = .ok (.if_icmp .ge 7, 3) := by decide +kernel
theorem dX5_has_14 : decode cX5_has 14 = .ok (.iconst 1, 1) := by decide +kernel
theorem dX5_has_15 : decode cX5_has 15 = .ok (.goto 4, 3) := by decide +kernel
theorem dX5_most_0 : decode cX5_most 0 = .ok (.iload_n 0, 1) := by decide +kernel
theorem dX5_most_1 : decode cX5_most 1 = .ok (.tableswitch 40 0 3 #[31, 34, 36, 38], 31) := by decide +kernel
theorem dX5_most_32 : decode cX5_most 32 = .ok (.bipush 6, 2) := by decide +kernel
theorem dX5_most_34 : decode cX5_most 34 = .ok (.ireturn, 1) := by decide +kernel
theorem dX5_most_35 : decode cX5_most 35 = .ok (.iconst 4, 1) := by decide +kernel
theorem dX5_most_36 : decode cX5_most 36 = .ok (.ireturn, 1) := by decide +kernel
theorem dX5_most_37 : decode cX5_most 37 = .ok (.iconst 4, 1) := by decide +kernel
theorem dX5_most_38 : decode cX5_most 38 = .ok (.ireturn, 1) := by decide +kernel
theorem dX5_most_39 : decode cX5_most 39 = .ok (.iconst 3, 1) := by decide +kernel
theorem dX5_most_40 : decode cX5_most 40 = .ok (.ireturn, 1) := by decide +kernel
theorem dX5_most_41 : decode cX5_most 41 = .ok (.iconst 4, 1) := by decide +kernel
theorem dX5_most_42 : decode cX5_most 42 = .ok (.ireturn, 1) := by decide +kernel
