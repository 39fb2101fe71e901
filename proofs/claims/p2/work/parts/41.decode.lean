theorem dX6_more_0 : decode cX6_more 0 = .ok (.iload_n 1, 1) := by decide +kernel
theorem dX6_more_1 : decode cX6_more 1 = .ok (.aload_n 0, 1) := by decide +kernel
theorem dX6_more_2 : decode cX6_more 2 = .ok (.arraylength, 1) := by decide +kernel
theorem dX6_more_3 : decode cX6_more 3 = .ok (.if_icmp .ge 5, 3) := by decide +kernel
theorem dX6_more_6 : decode cX6_more 6 = .ok (.aload_n 0, 1) := by decide +kernel
theorem dX6_more_7 : decode cX6_more 7 = .ok (.areturn, 1) := by decide +kernel
theorem dX6_more_8 : decode cX6_more 8 = .ok (.iload_n 1, 1) := by decide +kernel
theorem dX6_more_9 : decode cX6_more 9 = .ok (.iconst 1, 1) := by decide +kernel
theorem dX6_more_10 : decode cX6_more 10 = .ok (.iadd, 1) := by decide +kernel
theorem dX6_more_11 : decode cX6_more 11 = .ok (.iconst 2, 1) := by decide +kernel
theorem dX6_more_12 : decode cX6_more 12 = .ok (.aload_n 0, 1) := by decide +kernel
theorem dX6_more_13 : decode cX6_more 13 = .ok (.arraylength, 1) := by decide +kernel
theorem dX6_more_14 : decode cX6_more 14 = .ok (.imul, 1) := by decide +kernel
theorem dX6_more_15 : decode cX6_more 15 = .ok (.invokestatic 97, 3) := by decide +kernel
theorem dX6_more_18 : decode cX6_more 18 = .ok (.newarray .int, 2) := by decide +kernel
theorem dX6_more_20 : decode cX6_more 20 = .ok (.astore_n 2, 1) := by decide +kernel
theorem dX6_more_21 : decode cX6_more 21 = .ok (.iconst 0, 1) := by decide +kernel
theorem dX6_more_22 : decode cX6_more 22 = .ok (.istore_n 3, 1) := by decide +kernel
theorem dX6_more_23 : decode cX6_more 23 = .ok (.iload_n 3, 1) := by decide +kernel
theorem dX6_more_24 : decode cX6_more 24 = .ok (.aload_n 0, 1) := by decide +kernel
theorem dX6_more_25 : decode cX6_more 25 = .ok (.arraylength, 1) := by decide +kernel
theorem dX6_more_26 : decode cX6_more 26 = .ok (.if_icmp .ge 15, 3) := by decide +kernel
theorem dX6_more_29 : decode cX6_more 29 = .ok (.aload_n 2, 1) := by decide +kernel
theorem dX6_more_30 : decode cX6_more 30 = .ok (.iload_n 3, 1) := by decide +kernel
theorem dX6_more_31 : decode cX6_more 31 = .ok (.aload_n 0, 1) := by decide +kernel
theorem dX6_more_32 : decode cX6_more 32 = .ok (.iload_n 3, 1) := by decide +kernel
theorem dX6_more_33 : decode cX6_more 33 = .ok (.iaload, 1) := by decide +kernel
theorem dX6_more_34 : decode cX6_more 34 = .ok (.iastore, 1) := by decide +kernel
theorem dX6_more_35 : decode cX6_more 35 = .ok (.iinc 3 1, 3) := by decide +kernel
theorem dX6_more_38 : decode cX6_more 38 = .ok (.goto (-15), 3) := by decide +kernel
theorem dX6_more_41 : decode cX6_more 41 = .ok (.aload_n 2, 1) := by decide +kernel
theorem dX6_more_42 : decode cX6_more 42 = .ok (.areturn, 1) := by decide +kernel
