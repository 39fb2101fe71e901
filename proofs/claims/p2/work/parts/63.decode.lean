theorem dX6_constant_0 : decode cX6_constant 0 = .ok (.aload_n 0, 1) := by decide +kernel
theorem dX6_constant_1 : decode cX6_constant 1 = .ok (.iconst 0, 1) := by decide +kernel
theorem dX6_constant_2 : decode cX6_constant 2 = .ok (.putfield 93, 3) := by decide +kernel
theorem dX6_constant_5 : decode cX6_constant 5 = .ok (.aload_n 0, 1) := by decide +kernel
theorem dX6_constant_6 : decode cX6_constant 6 = .ok (.getfield 205, 3) := by decide +kernel
theorem dX6_constant_9 : decode cX6_constant 9 = .ok (.sipush 1000, 3) := by decide +kernel
theorem dX6_constant_12 : decode cX6_constant 12 = .ok (.if_icmp .ne 9, 3) := by decide +kernel
theorem dX6_constant_15 : decode cX6_constant 15 = .ok (.aload_n 0, 1) := by decide +kernel
theorem dX6_constant_16 : decode cX6_constant 16 = .ok (.iconst 1, 1) := by decide +kernel
theorem dX6_constant_17 : decode cX6_constant 17 = .ok (.invokevirtual 208, 3) := by decide +kernel
theorem dX6_constant_20 : decode cX6_constant 20 = .ok (.ireturn, 1) := by decide +kernel
theorem dX6_constant_21 : decode cX6_constant 21 = .ok (.aload_n 0, 1) := by decide +kernel
theorem dX6_constant_22 : decode cX6_constant 22 = .ok (.aload_n 0, 1) := by decide +kernel
theorem dX6_constant_23 : decode cX6_constant 23 = .ok (.iconst 0, 1) := by decide +kernel
theorem dX6_constant_24 : decode cX6_constant 24 = .ok (.aload_n 0, 1) := by decide +kernel
theorem dX6_constant_25 : decode cX6_constant 25 = .ok (.dup, 1) := by decide +kernel
theorem dX6_constant_26 : decode cX6_constant 26 = .ok (.getfield 224, 3) := by decide +kernel
theorem dX6_constant_29 : decode cX6_constant 29 = .ok (.dup_x1, 1) := by decide +kernel
theorem dX6_constant_30 : decode cX6_constant 30 = .ok (.iconst 1, 1) := by decide +kernel
theorem dX6_constant_31 : decode cX6_constant 31 = .ok (.iadd, 1) := by decide +kernel
theorem dX6_constant_32 : decode cX6_constant 32 = .ok (.putfield 224, 3) := by decide +kernel
theorem dX6_constant_35 : decode cX6_constant 35 = .ok (.invokevirtual 141, 3) := by decide +kernel
theorem dX6_constant_38 : decode cX6_constant 38 = .ok (.iconst 1, 1) := by decide +kernel
theorem dX6_constant_39 : decode cX6_constant 39 = .ok (.invokevirtual 227, 3) := by decide +kernel
theorem dX6_constant_42 : decode cX6_constant 42 = .ok (.ireturn, 1) := by decide +kernel
theorem dX6_locus_0 : decode cX6_locus 0 = .ok (.aload_n 0, 1) := by decide +kernel
theorem dX6_locus_1 : decode cX6_locus 1 = .ok (.iconst 0, 1) := by decide +kernel
theorem dX6_locus_2 : decode cX6_locus 2 = .ok (.putfield 93, 3) := by decide +kernel
theorem dX6_locus_5 : decode cX6_locus 5 = .ok (.iload_n 1, 1) := by decide +kernel
theorem dX6_locus_6 : decode cX6_locus 6 = .ok (.ifCond .lt 8, 3) := by decide +kernel
theorem dX6_locus_9 : decode cX6_locus 9 = .ok (.iload_n 1, 1) := by decide +kernel
theorem dX6_locus_10 : decode cX6_locus 10 = .ok (.iconst 1, 1) := by decide +kernel
theorem dX6_locus_11 : decode cX6_locus 11 = .ok (.if_icmp .le 11, 3) := by decide +kernel
theorem dX6_locus_14 : decode cX6_locus 14 = .ok (.aload_n 0, 1) := by decide +kernel
theorem dX6_locus_15 : decode cX6_locus 15 = .ok (.iconst 1, 1) := by decide +kernel
theorem dX6_locus_16 : decode cX6_locus 16 = .ok (.invokevirtual 208, 3) := by decide +kernel
theorem dX6_locus_19 : decode cX6_locus 19 = .ok (.goto 14, 3) := by decide +kernel
theorem dX6_locus_22 : decode cX6_locus 22 = .ok (.aload_n 0, 1) := by decide +kernel
theorem dX6_locus_23 : decode cX6_locus 23 = .ok (.aload_n 0, 1) := by decide +kernel
theorem dX6_locus_24 : decode cX6_locus 24 = .ok (.iconst 1, 1) := by decide +kernel
theorem dX6_locus_25 : decode cX6_locus 25 = .ok (.iload_n 1, 1) := by decide +kernel
theorem dX6_locus_26 : decode cX6_locus 26 = .ok (.invokevirtual 141, 3) := by decide +kernel
theorem dX6_locus_29 : decode cX6_locus 29 = .ok (.iconst 2, 1) := by decide +kernel
theorem dX6_locus_30 : decode cX6_locus 30 = .ok (.invokevirtual 227, 3) := by decide +kernel
theorem dX6_locus_33 : decode cX6_locus 33 = .ok (.ireturn, 1) := by decide +kernel
