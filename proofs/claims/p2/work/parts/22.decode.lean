theorem dX5_keepNewConstant_0 : decode cX5_keepNewConstant 0 = .ok (.aload_n 0, 1) := by decide +kernel
theorem dX5_keepNewConstant_1 : decode cX5_keepNewConstant 1 = .ok (.getfield 32, 3) := by decide +kernel
theorem dX5_keepNewConstant_4 : decode cX5_keepNewConstant 4 = .ok (.iconst 0, 1) := by decide +kernel
theorem dX5_keepNewConstant_5 : decode cX5_keepNewConstant 5 = .ok (.aload_n 0, 1) := by decide +kernel
theorem dX5_keepNewConstant_6 : decode cX5_keepNewConstant 6 = .ok (.getfield 260, 3) := by decide +kernel
theorem dX5_keepNewConstant_9 : decode cX5_keepNewConstant 9 = .ok (.invokestatic 86, 3) := by decide +kernel
theorem dX5_keepNewConstant_12 : decode cX5_keepNewConstant 12 = .ok (.invokevirtual 92, 3) := by decide +kernel
theorem dX5_keepNewConstant_15 : decode cX5_keepNewConstant 15 = .ok (.aload_n 0, 1) := by decide +kernel
theorem dX5_keepNewConstant_16 : decode cX5_keepNewConstant 16 = .ok (.invokevirtual 96, 3) := by decide +kernel
theorem dX5_keepNewConstant_19 : decode cX5_keepNewConstant 19 = .ok (.istore_n 1, 1) := by decide +kernel
theorem dX5_keepNewConstant_20 : decode cX5_keepNewConstant 20 = .ok (.aload_n 0, 1) := by decide +kernel
theorem dX5_keepNewConstant_21 : decode cX5_keepNewConstant 21 = .ok (.dup, 1) := by decide +kernel
theorem dX5_keepNewConstant_22 : decode cX5_keepNewConstant 22 = .ok (.getfield 260, 3) := by decide +kernel
theorem dX5_keepNewConstant_25 : decode cX5_keepNewConstant 25 = .ok (.iconst 1, 1) := by decide +kernel
theorem dX5_keepNewConstant_26 : decode cX5_keepNewConstant 26 = .ok (.iadd, 1) := by decide +kernel
theorem dX5_keepNewConstant_27 : decode cX5_keepNewConstant 27 = .ok (.putfield 260, 3) := by decide +kernel
theorem dX5_keepNewConstant_30 : decode cX5_keepNewConstant 30 = .ok (.iload_n 1, 1) := by decide +kernel
theorem dX5_keepNewConstant_31 : decode cX5_keepNewConstant 31 = .ok (.ireturn, 1) := by decide +kernel
theorem dX5_constant_0 : decode cX5_constant 0 = .ok (.aload_n 0, 1) := by decide +kernel
theorem dX5_constant_1 : decode cX5_constant 1 = .ok (.invokevirtual 80, 3) := by decide +kernel
theorem dX5_constant_4 : decode cX5_constant 4 = .ok (.ireturn, 1) := by decide +kernel
theorem dX5_locus_0 : decode cX5_locus 0 = .ok (.iload_n 1, 1) := by decide +kernel
theorem dX5_locus_1 : decode cX5_locus 1 = .ok (.ifCond .lt 8, 3) := by decide +kernel
theorem dX5_locus_4 : decode cX5_locus 4 = .ok (.iload_n 1, 1) := by decide +kernel
theorem dX5_locus_5 : decode cX5_locus 5 = .ok (.iconst 2, 1) := by decide +kernel
theorem dX5_locus_6 : decode cX5_locus 6 = .ok (.if_icmp .lt 13, 3) := by decide +kernel
theorem dX5_locus_9 : decode cX5_locus 9 = .ok (.new 51, 3) := by decide +kernel
theorem dX5_locus_12 : decode cX5_locus 12 = .ok (.dup, 1) := by decide +kernel
theorem dX5_locus_13 : decode cX5_locus 13 = .ok (.ldc 84, 2) := by decide +kernel
theorem dX5_locus_15 : decode cX5_locus 15 = .ok (.invokespecial 55, 3) := by decide +kernel
theorem dX5_locus_18 : decode cX5_locus 18 = .ok (.athrow, 1) := by decide +kernel
theorem dX5_locus_19 : decode cX5_locus 19 = .ok (.aload_n 0, 1) := by decide +kernel
theorem dX5_locus_20 : decode cX5_locus 20 = .ok (.getfield 32, 3) := by decide +kernel
theorem dX5_locus_23 : decode cX5_locus 23 = .ok (.iconst 1, 1) := by decide +kernel
theorem dX5_locus_24 : decode cX5_locus 24 = .ok (.iload_n 1, 1) := by decide +kernel
theorem dX5_locus_25 : decode cX5_locus 25 = .ok (.invokestatic 86, 3) := by decide +kernel
theorem dX5_locus_28 : decode cX5_locus 28 = .ok (.invokevirtual 92, 3) := by decide +kernel
theorem dX5_locus_31 : decode cX5_locus 31 = .ok (.aload_n 0, 1) := by decide +kernel
theorem dX5_locus_32 : decode cX5_locus 32 = .ok (.invokevirtual 96, 3) := by decide +kernel
theorem dX5_locus_35 : decode cX5_locus 35 = .ok (.ireturn, 1) := by decide +kernel
