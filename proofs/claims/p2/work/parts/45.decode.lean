theorem dX6_leaf_0 : decode cX6_leaf 0 = .ok (.aload_n 0, 1) := by decide +kernel
theorem dX6_leaf_1 : decode cX6_leaf 1 = .ok (.iload_n 1, 1) := by decide +kernel
theorem dX6_leaf_2 : decode cX6_leaf 2 = .ok (.iload_n 2, 1) := by decide +kernel
theorem dX6_leaf_3 : decode cX6_leaf 3 = .ok (.aload_n 0, 1) := by decide +kernel
theorem dX6_leaf_4 : decode cX6_leaf 4 = .ok (.getfield 103, 3) := by decide +kernel
theorem dX6_leaf_7 : decode cX6_leaf 7 = .ok (.invokevirtual 133, 3) := by decide +kernel
theorem dX6_leaf_10 : decode cX6_leaf 10 = .ok (.ireturn, 1) := by decide +kernel
theorem dX6_with_0 : decode cX6_with 0 = .ok (.aload_n 0, 1) := by decide +kernel
theorem dX6_with_1 : decode cX6_with 1 = .ok (.getfield 103, 3) := by decide +kernel
theorem dX6_with_4 : decode cX6_with 4 = .ok (.istore_n 3, 1) := by decide +kernel
theorem dX6_with_5 : decode cX6_with 5 = .ok (.aload_n 0, 1) := by decide +kernel
theorem dX6_with_6 : decode cX6_with 6 = .ok (.iload_n 2, 1) := by decide +kernel
theorem dX6_with_7 : decode cX6_with 7 = .ok (.invokevirtual 130, 3) := by decide +kernel
theorem dX6_with_10 : decode cX6_with 10 = .ok (.aload_n 0, 1) := by decide +kernel
theorem dX6_with_11 : decode cX6_with 11 = .ok (.iload_n 1, 1) := by decide +kernel
theorem dX6_with_12 : decode cX6_with 12 = .ok (.iconst (-1), 1) := by decide +kernel
theorem dX6_with_13 : decode cX6_with 13 = .ok (.iload_n 3, 1) := by decide +kernel
theorem dX6_with_14 : decode cX6_with 14 = .ok (.invokevirtual 133, 3) := by decide +kernel
theorem dX6_with_17 : decode cX6_with 17 = .ok (.ireturn, 1) := by decide +kernel
theorem dX6_truth_0 : decode cX6_truth 0 = .ok (.aload_n 0, 1) := by decide +kernel
theorem dX6_truth_1 : decode cX6_truth 1 = .ok (.iconst 3, 1) := by decide +kernel
theorem dX6_truth_2 : decode cX6_truth 2 = .ok (.iconst (-1), 1) := by decide +kernel
theorem dX6_truth_3 : decode cX6_truth 3 = .ok (.invokevirtual 141, 3) := by decide +kernel
theorem dX6_truth_6 : decode cX6_truth 6 = .ok (.ireturn, 1) := by decide +kernel
theorem dX6_not_0 : decode cX6_not 0 = .ok (.aload_n 0, 1) := by decide +kernel
theorem dX6_not_1 : decode cX6_not 1 = .ok (.getfield 7, 3) := by decide +kernel
theorem dX6_not_4 : decode cX6_not 4 = .ok (.iload_n 1, 1) := by decide +kernel
theorem dX6_not_5 : decode cX6_not 5 = .ok (.iaload, 1) := by decide +kernel
theorem dX6_not_6 : decode cX6_not 6 = .ok (.bipush 6, 2) := by decide +kernel
theorem dX6_not_8 : decode cX6_not 8 = .ok (.if_icmp .ne 12, 3) := by decide +kernel
theorem dX6_not_11 : decode cX6_not 11 = .ok (.aload_n 0, 1) := by decide +kernel
theorem dX6_not_12 : decode cX6_not 12 = .ok (.iload_n 1, 1) := by decide +kernel
theorem dX6_not_13 : decode cX6_not 13 = .ok (.iconst 0, 1) := by decide +kernel
theorem dX6_not_14 : decode cX6_not 14 = .ok (.invokevirtual 110, 3) := by decide +kernel
theorem dX6_not_17 : decode cX6_not 17 = .ok (.goto 10, 3) := by decide +kernel
theorem dX6_not_20 : decode cX6_not 20 = .ok (.aload_n 0, 1) := by decide +kernel
theorem dX6_not_21 : decode cX6_not 21 = .ok (.bipush 6, 2) := by decide +kernel
theorem dX6_not_23 : decode cX6_not 23 = .ok (.iload_n 1, 1) := by decide +kernel
theorem dX6_not_24 : decode cX6_not 24 = .ok (.invokevirtual 144, 3) := by decide +kernel
theorem dX6_not_27 : decode cX6_not 27 = .ok (.ireturn, 1) := by decide +kernel
theorem dX6_all_0 : decode cX6_all 0 = .ok (.aload_n 0, 1) := by decide +kernel
theorem dX6_all_1 : decode cX6_all 1 = .ok (.getfield 7, 3) := by decide +kernel
theorem dX6_all_4 : decode cX6_all 4 = .ok (.iload_n 1, 1) := by decide +kernel
theorem dX6_all_5 : decode cX6_all 5 = .ok (.iaload, 1) := by decide +kernel
theorem dX6_all_6 : decode cX6_all 6 = .ok (.iconst 3, 1) := by decide +kernel
theorem dX6_all_7 : decode cX6_all 7 = .ok (.if_icmp .ne 7, 3) := by decide +kernel
theorem dX6_all_10 : decode cX6_all 10 = .ok (.iload_n 1, 1) := by decide +kernel
theorem dX6_all_11 : decode cX6_all 11 = .ok (.goto 10, 3) := by decide +kernel
theorem dX6_all_14 : decode cX6_all 14 = .ok (.aload_n 0, 1) := by decide +kernel
theorem dX6_all_15 : decode cX6_all 15 = .ok (.bipush 8, 2) := by decide +kernel
theorem dX6_all_17 : decode cX6_all 17 = .ok (.iload_n 1, 1) := by decide +kernel
theorem dX6_all_18 : decode cX6_all 18 = .ok (.invokevirtual 144, 3) := by decide +kernel
theorem dX6_all_21 : decode cX6_all 21 = .ok (.ireturn, 1) := by decide +kernel
