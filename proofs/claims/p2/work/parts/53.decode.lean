theorem dX6_read_0 : decode cX6_read 0 = .ok (.aload_n 0, 1) := by decide +kernel
theorem dX6_read_1 : decode cX6_read 1 = .ok (.getfield 43, 3) := by decide +kernel
theorem dX6_read_4 : decode cX6_read 4 = .ok (.aload_n 0, 1) := by decide +kernel
theorem dX6_read_5 : decode cX6_read 5 = .ok (.getfield 119, 3) := by decide +kernel
theorem dX6_read_8 : decode cX6_read 8 = .ok (.iaload, 1) := by decide +kernel
theorem dX6_read_9 : decode cX6_read 9 = .ok (.istore_n 1, 1) := by decide +kernel
theorem dX6_read_10 : decode cX6_read 10 = .ok (.aload_n 0, 1) := by decide +kernel
theorem dX6_read_11 : decode cX6_read 11 = .ok (.getfield 43, 3) := by decide +kernel
theorem dX6_read_14 : decode cX6_read 14 = .ok (.aload_n 0, 1) := by decide +kernel
theorem dX6_read_15 : decode cX6_read 15 = .ok (.getfield 119, 3) := by decide +kernel
theorem dX6_read_18 : decode cX6_read 18 = .ok (.iconst 1, 1) := by decide +kernel
theorem dX6_read_19 : decode cX6_read 19 = .ok (.iadd, 1) := by decide +kernel
theorem dX6_read_20 : decode cX6_read 20 = .ok (.iaload, 1) := by decide +kernel
theorem dX6_read_21 : decode cX6_read 21 = .ok (.istore_n 2, 1) := by decide +kernel
theorem dX6_read_22 : decode cX6_read 22 = .ok (.aload_n 0, 1) := by decide +kernel
theorem dX6_read_23 : decode cX6_read 23 = .ok (.getfield 43, 3) := by decide +kernel
theorem dX6_read_26 : decode cX6_read 26 = .ok (.aload_n 0, 1) := by decide +kernel
theorem dX6_read_27 : decode cX6_read 27 = .ok (.getfield 119, 3) := by decide +kernel
theorem dX6_read_30 : decode cX6_read 30 = .ok (.iconst 2, 1) := by decide +kernel
theorem dX6_read_31 : decode cX6_read 31 = .ok (.iadd, 1) := by decide +kernel
theorem dX6_read_32 : decode cX6_read 32 = .ok (.iaload, 1) := by decide +kernel
theorem dX6_read_33 : decode cX6_read 33 = .ok (.istore_n 3, 1) := by decide +kernel
theorem dX6_read_34 : decode cX6_read 34 = .ok (.aload_n 0, 1) := by decide +kernel
theorem dX6_read_35 : decode cX6_read 35 = .ok (.getfield 103, 3) := by decide +kernel
theorem dX6_read_38 : decode cX6_read 38 = .ok (.istore 4, 2) := by decide +kernel
theorem dX6_read_40 : decode cX6_read 40 = .ok (.aload_n 0, 1) := by decide +kernel
theorem dX6_read_41 : decode cX6_read 41 = .ok (.dup, 1) := by decide +kernel
theorem dX6_read_42 : decode cX6_read 42 = .ok (.getfield 119, 3) := by decide +kernel
theorem dX6_read_45 : decode cX6_read 45 = .ok (.iconst 3, 1) := by decide +kernel
theorem dX6_read_46 : decode cX6_read 46 = .ok (.iadd, 1) := by decide +kernel
theorem dX6_read_47 : decode cX6_read 47 = .ok (.putfield 119, 3) := by decide +kernel
theorem dX6_read_50 : decode cX6_read 50 = .ok (.iconst 0, 1) := by decide +kernel
theorem dX6_read_51 : decode cX6_read 51 = .ok (.istore 5, 2) := by decide +kernel
theorem dX6_read_53 : decode cX6_read 53 = .ok (.iload 5, 2) := by decide +kernel
theorem dX6_read_55 : decode cX6_read 55 = .ok (.iload_n 3, 1) := by decide +kernel
theorem dX6_read_56 : decode cX6_read 56 = .ok (.if_icmp .ge 21, 3) := by decide +kernel
theorem dX6_read_59 : decode cX6_read 59 = .ok (.aload_n 0, 1) := by decide +kernel
theorem dX6_read_60 : decode cX6_read 60 = .ok (.invokevirtual 126, 3) := by decide +kernel
theorem dX6_read_63 : decode cX6_read 63 = .ok (.istore 6, 2) := by decide +kernel
theorem dX6_read_65 : decode cX6_read 65 = .ok (.aload_n 0, 1) := by decide +kernel
theorem dX6_read_66 : decode cX6_read 66 = .ok (.iload 6, 2) := by decide +kernel
theorem dX6_read_68 : decode cX6_read 68 = .ok (.invokevirtual 130, 3) := by decide +kernel
theorem dX6_read_71 : decode cX6_read 71 = .ok (.iinc 5 1, 3) := by decide +kernel
theorem dX6_read_74 : decode cX6_read 74 = .ok (.goto (-21), 3) := by decide +kernel
theorem dX6_read_77 : decode cX6_read 77 = .ok (.aload_n 0, 1) := by decide +kernel
theorem dX6_read_78 : decode cX6_read 78 = .ok (.iload_n 1, 1) := by decide +kernel
theorem dX6_read_79 : decode cX6_read 79 = .ok (.iload_n 2, 1) := by decide +kernel
theorem dX6_read_80 : decode cX6_read 80 = .ok (.iload 4, 2) := by decide +kernel
theorem dX6_read_82 : decode cX6_read 82 = .ok (.invokevirtual 133, 3) := by decide +kernel
theorem dX6_read_85 : decode cX6_read 85 = .ok (.ireturn, 1) := by decide +kernel
