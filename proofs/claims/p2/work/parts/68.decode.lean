theorem dX6_cases_0 : decode cX6_cases 0 = .ok (.aload_n 0, 1) := by decide +kernel
theorem dX6_cases_1 : decode cX6_cases 1 = .ok (.iconst 0, 1) := by decide +kernel
theorem dX6_cases_2 : decode cX6_cases 2 = .ok (.putfield 93, 3) := by decide +kernel
theorem dX6_cases_5 : decode cX6_cases 5 = .ok (.aload_n 0, 1) := by decide +kernel
theorem dX6_cases_6 : decode cX6_cases 6 = .ok (.invokevirtual 239, 3) := by decide +kernel
theorem dX6_cases_9 : decode cX6_cases 9 = .ok (.ifCond .eq 18, 3) := by decide +kernel
theorem dX6_cases_12 : decode cX6_cases 12 = .ok (.aload_n 0, 1) := by decide +kernel
theorem dX6_cases_13 : decode cX6_cases 13 = .ok (.getfield 52, 3) := by decide +kernel
theorem dX6_cases_16 : decode cX6_cases 16 = .ok (.aload_n 0, 1) := by decide +kernel
theorem dX6_cases_17 : decode cX6_cases 17 = .ok (.getfield 187, 3) := by decide +kernel
theorem dX6_cases_20 : decode cX6_cases 20 = .ok (.iconst 1, 1) := by decide +kernel
theorem dX6_cases_21 : decode cX6_cases 21 = .ok (.isub, 1) := by decide +kernel
theorem dX6_cases_22 : decode cX6_cases 22 = .ok (.iaload, 1) := by decide +kernel
theorem dX6_cases_23 : decode cX6_cases 23 = .ok (.iconst 2, 1) := by decide +kernel
theorem dX6_cases_24 : decode cX6_cases 24 = .ok (.if_icmp .ne 10, 3) := by decide +kernel
theorem dX6_cases_27 : decode cX6_cases 27 = .ok (.aload_n 0, 1) := by decide +kernel
theorem dX6_cases_28 : decode cX6_cases 28 = .ok (.iconst 1, 1) := by decide +kernel
theorem dX6_cases_29 : decode cX6_cases 29 = .ok (.invokevirtual 208, 3) := by decide +kernel
theorem dX6_cases_32 : decode cX6_cases 32 = .ok (.pop, 1) := by decide +kernel
theorem dX6_cases_33 : decode cX6_cases 33 = .ok (.return_, 1) := by decide +kernel
theorem dX6_cases_34 : decode cX6_cases 34 = .ok (.aload_n 0, 1) := by decide +kernel
theorem dX6_cases_35 : decode cX6_cases 35 = .ok (.getfield 187, 3) := by decide +kernel
theorem dX6_cases_38 : decode cX6_cases 38 = .ok (.iconst 1, 1) := by decide +kernel
theorem dX6_cases_39 : decode cX6_cases 39 = .ok (.isub, 1) := by decide +kernel
theorem dX6_cases_40 : decode cX6_cases 40 = .ok (.istore_n 1, 1) := by decide +kernel
theorem dX6_cases_41 : decode cX6_cases 41 = .ok (.aload_n 0, 1) := by decide +kernel
theorem dX6_cases_42 : decode cX6_cases 42 = .ok (.getfield 67, 3) := by decide +kernel
theorem dX6_cases_45 : decode cX6_cases 45 = .ok (.iload_n 1, 1) := by decide +kernel
theorem dX6_cases_46 : decode cX6_cases 46 = .ok (.iconst 1, 1) := by decide +kernel
theorem dX6_cases_47 : decode cX6_cases 47 = .ok (.bastore, 1) := by decide +kernel
theorem dX6_cases_48 : decode cX6_cases 48 = .ok (.aload_n 0, 1) := by decide +kernel
theorem dX6_cases_49 : decode cX6_cases 49 = .ok (.getfield 71, 3) := by decide +kernel
theorem dX6_cases_52 : decode cX6_cases 52 = .ok (.iload_n 1, 1) := by decide +kernel
theorem dX6_cases_53 : decode cX6_cases 53 = .ok (.iconst 1, 1) := by decide +kernel
theorem dX6_cases_54 : decode cX6_cases 54 = .ok (.bastore, 1) := by decide +kernel
theorem dX6_cases_55 : decode cX6_cases 55 = .ok (.aload_n 0, 1) := by decide +kernel
theorem dX6_cases_56 : decode cX6_cases 56 = .ok (.getfield 58, 3) := by decide +kernel
theorem dX6_cases_59 : decode cX6_cases 59 = .ok (.iload_n 1, 1) := by decide +kernel
theorem dX6_cases_60 : decode cX6_cases 60 = .ok (.iconst 0, 1) := by decide +kernel
theorem dX6_cases_61 : decode cX6_cases 61 = .ok (.iastore, 1) := by decide +kernel
theorem dX6_cases_62 : decode cX6_cases 62 = .ok (.aload_n 0, 1) := by decide +kernel
theorem dX6_cases_63 : decode cX6_cases 63 = .ok (.getfield 64, 3) := by decide +kernel
theorem dX6_cases_66 : decode cX6_cases 66 = .ok (.iload_n 1, 1) := by decide +kernel
theorem dX6_cases_67 : decode cX6_cases 67 = .ok (.aload_n 0, 1) := by decide +kernel
theorem dX6_cases_68 : decode cX6_cases 68 = .ok (.getfield 253, 3) := by decide +kernel
theorem dX6_cases_71 : decode cX6_cases 71 = .ok (.iastore, 1) := by decide +kernel
theorem dX6_cases_72 : decode cX6_cases 72 = .ok (.return_, 1) := by decide +kernel
