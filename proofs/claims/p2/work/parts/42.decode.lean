theorem dX6_get_0 : decode cX6_get 0 = .ok (.aload_n 0, 1) := by decide +kernel
theorem dX6_get_1 : decode cX6_get 1 = .ok (.getfield 37, 3) := by decide +kernel
theorem dX6_get_4 : decode cX6_get 4 = .ok (.aload_n 0, 1) := by decide +kernel
theorem dX6_get_5 : decode cX6_get 5 = .ok (.getfield 16, 3) := by decide +kernel
theorem dX6_get_8 : decode cX6_get 8 = .ok (.iload_n 1, 1) := by decide +kernel
theorem dX6_get_9 : decode cX6_get 9 = .ok (.iaload, 1) := by decide +kernel
theorem dX6_get_10 : decode cX6_get 10 = .ok (.iload_n 2, 1) := by decide +kernel
theorem dX6_get_11 : decode cX6_get 11 = .ok (.iadd, 1) := by decide +kernel
theorem dX6_get_12 : decode cX6_get 12 = .ok (.iaload, 1) := by decide +kernel
theorem dX6_get_13 : decode cX6_get 13 = .ok (.ireturn, 1) := by decide +kernel
theorem dX6_give_0 : decode cX6_give 0 = .ok (.aload_n 0, 1) := by decide +kernel
theorem dX6_give_1 : decode cX6_give 1 = .ok (.aload_n 0, 1) := by decide +kernel
theorem dX6_give_2 : decode cX6_give 2 = .ok (.getfield 40, 3) := by decide +kernel
theorem dX6_give_5 : decode cX6_give 5 = .ok (.aload_n 0, 1) := by decide +kernel
theorem dX6_give_6 : decode cX6_give 6 = .ok (.getfield 103, 3) := by decide +kernel
theorem dX6_give_9 : decode cX6_give 9 = .ok (.invokestatic 106, 3) := by decide +kernel
theorem dX6_give_12 : decode cX6_give 12 = .ok (.putfield 40, 3) := by decide +kernel
theorem dX6_give_15 : decode cX6_give 15 = .ok (.aload_n 0, 1) := by decide +kernel
theorem dX6_give_16 : decode cX6_give 16 = .ok (.getfield 40, 3) := by decide +kernel
theorem dX6_give_19 : decode cX6_give 19 = .ok (.aload_n 0, 1) := by decide +kernel
theorem dX6_give_20 : decode cX6_give 20 = .ok (.dup, 1) := by decide +kernel
theorem dX6_give_21 : decode cX6_give 21 = .ok (.getfield 103, 3) := by decide +kernel
theorem dX6_give_24 : decode cX6_give 24 = .ok (.dup_x1, 1) := by decide +kernel
theorem dX6_give_25 : decode cX6_give 25 = .ok (.iconst 1, 1) := by decide +kernel
theorem dX6_give_26 : decode cX6_give 26 = .ok (.iadd, 1) := by decide +kernel
theorem dX6_give_27 : decode cX6_give 27 = .ok (.putfield 103, 3) := by decide +kernel
theorem dX6_give_30 : decode cX6_give 30 = .ok (.iload_n 1, 1) := by decide +kernel
theorem dX6_give_31 : decode cX6_give 31 = .ok (.iastore, 1) := by decide +kernel
theorem dX6_give_32 : decode cX6_give 32 = .ok (.return_, 1) := by decide +kernel
