theorem dX6_alone_0 : decode cX6_alone 0 = .ok (.iload_n 1, 1) := by decide +kernel
theorem dX6_alone_1 : decode cX6_alone 1 = .ok (.iload_n 2, 1) := by decide +kernel
theorem dX6_alone_2 : decode cX6_alone 2 = .ok (.if_icmp .gt 11, 3) := by decide +kernel
theorem dX6_alone_5 : decode cX6_alone 5 = .ok (.aload_n 0, 1) := by decide +kernel
theorem dX6_alone_6 : decode cX6_alone 6 = .ok (.iload_n 2, 1) := by decide +kernel
theorem dX6_alone_7 : decode cX6_alone 7 = .ok (.iload_n 3, 1) := by decide +kernel
theorem dX6_alone_8 : decode cX6_alone 8 = .ok (.invokevirtual 137, 3) := by decide +kernel
theorem dX6_alone_11 : decode cX6_alone 11 = .ok (.iload_n 1, 1) := by decide +kernel
theorem dX6_alone_12 : decode cX6_alone 12 = .ok (.ireturn, 1) := by decide +kernel
theorem dX6_alone_13 : decode cX6_alone 13 = .ok (.aload_n 0, 1) := by decide +kernel
theorem dX6_alone_14 : decode cX6_alone 14 = .ok (.iconst 0, 1) := by decide +kernel
theorem dX6_alone_15 : decode cX6_alone 15 = .ok (.putfield 119, 3) := by decide +kernel
theorem dX6_alone_18 : decode cX6_alone 18 = .ok (.aload_n 0, 1) := by decide +kernel
theorem dX6_alone_19 : decode cX6_alone 19 = .ok (.iload_n 1, 1) := by decide +kernel
theorem dX6_alone_20 : decode cX6_alone 20 = .ok (.invokevirtual 122, 3) := by decide +kernel
theorem dX6_alone_23 : decode cX6_alone 23 = .ok (.aload_n 0, 1) := by decide +kernel
theorem dX6_alone_24 : decode cX6_alone 24 = .ok (.iload_n 2, 1) := by decide +kernel
theorem dX6_alone_25 : decode cX6_alone 25 = .ok (.iload_n 3, 1) := by decide +kernel
theorem dX6_alone_26 : decode cX6_alone 26 = .ok (.invokevirtual 137, 3) := by decide +kernel
theorem dX6_alone_29 : decode cX6_alone 29 = .ok (.aload_n 0, 1) := by decide +kernel
theorem dX6_alone_30 : decode cX6_alone 30 = .ok (.iconst 0, 1) := by decide +kernel
theorem dX6_alone_31 : decode cX6_alone 31 = .ok (.putfield 119, 3) := by decide +kernel
theorem dX6_alone_34 : decode cX6_alone 34 = .ok (.aload_n 0, 1) := by decide +kernel
theorem dX6_alone_35 : decode cX6_alone 35 = .ok (.invokevirtual 126, 3) := by decide +kernel
theorem dX6_alone_38 : decode cX6_alone 38 = .ok (.ireturn, 1) := by decide +kernel
