theorem dX6_hasLocus_0 : decode cX6_hasLocus 0 = .ok (.aload_n 0, 1) := by decide +kernel
theorem dX6_hasLocus_1 : decode cX6_hasLocus 1 = .ok (.getfield 7, 3) := by decide +kernel
theorem dX6_hasLocus_4 : decode cX6_hasLocus 4 = .ok (.iload_n 1, 1) := by decide +kernel
theorem dX6_hasLocus_5 : decode cX6_hasLocus 5 = .ok (.iaload, 1) := by decide +kernel
theorem dX6_hasLocus_6 : decode cX6_hasLocus 6 = .ok (.iconst 1, 1) := by decide +kernel
theorem dX6_hasLocus_7 : decode cX6_hasLocus 7 = .ok (.if_icmp .ne 19, 3) := by decide +kernel
theorem dX6_hasLocus_10 : decode cX6_hasLocus 10 = .ok (.aload_n 0, 1) := by decide +kernel
theorem dX6_hasLocus_11 : decode cX6_hasLocus 11 = .ok (.getfield 13, 3) := by decide +kernel
theorem dX6_hasLocus_14 : decode cX6_hasLocus 14 = .ok (.iload_n 1, 1) := by decide +kernel
theorem dX6_hasLocus_15 : decode cX6_hasLocus 15 = .ok (.iaload, 1) := by decide +kernel
theorem dX6_hasLocus_16 : decode cX6_hasLocus 16 = .ok (.iload_n 2, 1) := by decide +kernel
theorem dX6_hasLocus_17 : decode cX6_hasLocus 17 = .ok (.if_icmp .ne 7, 3) := by decide +kernel
theorem dX6_hasLocus_20 : decode cX6_hasLocus 20 = .ok (.iconst 1, 1) := by decide +kernel
theorem dX6_hasLocus_21 : decode cX6_hasLocus 21 = .ok (.goto 4, 3) := by decide +kernel
theorem dX6_hasLocus_24 : decode cX6_hasLocus 24 = .ok (.iconst 0, 1) := by decide +kernel
theorem dX6_hasLocus_25 : decode cX6_hasLocus 25 = .ok (.ireturn, 1) := by decide +kernel
theorem dX6_hasLocus_26 : decode cX6_hasLocus 26 = .ok (.iconst 0, 1) := by decide +kernel
theorem dX6_hasLocus_27 : decode cX6_hasLocus 27 = .ok (.istore_n 3, 1) := by decide +kernel
theorem dX6_hasLocus_28 : decode cX6_hasLocus 28 = .ok (.iload_n 3, 1) := by decide +kernel
theorem dX6_hasLocus_29 : decode cX6_hasLocus 29 = .ok (.aload_n 0, 1) := by decide +kernel
theorem dX6_hasLocus_30 : decode cX6_hasLocus 30 = .ok (.getfield 19, 3) := by decide +kernel
theorem dX6_hasLocus_33 : decode cX6_hasLocus 33 = .ok (.iload_n 1, 1) := by decide +kernel
theorem dX6_hasLocus_34 : decode cX6_hasLocus 34 = .ok (.iaload, 1) := by decide +kernel
theorem dX6_hasLocus_35 : decode cX6_hasLocus 35 = .ok (.if_icmp .ge 25, 3) := by decide +kernel
theorem dX6_hasLocus_38 : decode cX6_hasLocus 38 = .ok (.aload_n 0, 1) := by decide +kernel
theorem dX6_hasLocus_39 : decode cX6_hasLocus 39 = .ok (.aload_n 0, 1) := by decide +kernel
theorem dX6_hasLocus_40 : decode cX6_hasLocus 40 = .ok (.iload_n 1, 1) := by decide +kernel
theorem dX6_hasLocus_41 : decode cX6_hasLocus 41 = .ok (.iload_n 3, 1) := by decide +kernel
theorem dX6_hasLocus_42 : decode cX6_hasLocus 42 = .ok (.invokevirtual 110, 3) := by decide +kernel
theorem dX6_hasLocus_45 : decode cX6_hasLocus 45 = .ok (.iload_n 2, 1) := by decide +kernel
theorem dX6_hasLocus_46 : decode cX6_hasLocus 46 = .ok (.invokevirtual 177, 3) := by decide +kernel
theorem dX6_hasLocus_49 : decode cX6_hasLocus 49 = .ok (.ifCond .eq 5, 3) := by decide +kernel
theorem dX6_hasLocus_52 : decode cX6_hasLocus 52 = .ok (.iconst 1, 1) := by decide +kernel
theorem dX6_hasLocus_53 : decode cX6_hasLocus 53 = .ok (.ireturn, 1) := by decide +kernel
theorem dX6_hasLocus_54 : decode cX6_hasLocus 54 = .ok (.iinc 3 1, 3) := by decide +kernel
theorem dX6_hasLocus_57 : decode cX6_hasLocus 57 = .ok (.goto (-29), 3) := by decide +kernel
theorem dX6_hasLocus_60 : decode cX6_hasLocus 60 = .ok (.iconst 0, 1) := by decide +kernel
theorem dX6_hasLocus_61 : decode cX6_hasLocus 61 = .ok (.ireturn, 1) := by decide +kernel
