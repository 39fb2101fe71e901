theorem dX6_stepOf_0 : decode cX6_stepOf 0 = .ok (.aload_n 0, 1) := by decide +kernel
theorem dX6_stepOf_1 : decode cX6_stepOf 1 = .ok (.iconst 0, 1) := by decide +kernel
theorem dX6_stepOf_2 : decode cX6_stepOf 2 = .ok (.putfield 93, 3) := by decide +kernel
theorem dX6_stepOf_5 : decode cX6_stepOf 5 = .ok (.aload_n 0, 1) := by decide +kernel
theorem dX6_stepOf_6 : decode cX6_stepOf 6 = .ok (.iload_n 2, 1) := by decide +kernel
theorem dX6_stepOf_7 : decode cX6_stepOf 7 = .ok (.invokevirtual 236, 3) := by decide +kernel
theorem dX6_stepOf_10 : decode cX6_stepOf 10 = .ok (.istore_n 3, 1) := by decide +kernel
theorem dX6_stepOf_11 : decode cX6_stepOf 11 = .ok (.iload_n 3, 1) := by decide +kernel
theorem dX6_stepOf_12 : decode cX6_stepOf 12 = .ok (.ifCond .ne 17, 3) := by decide +kernel
theorem dX6_stepOf_15 : decode cX6_stepOf 15 = .ok (.aload_n 0, 1) := by decide +kernel
theorem dX6_stepOf_16 : decode cX6_stepOf 16 = .ok (.iconst 1, 1) := by decide +kernel
theorem dX6_stepOf_17 : decode cX6_stepOf 17 = .ok (.invokevirtual 208, 3) := by decide +kernel
theorem dX6_stepOf_20 : decode cX6_stepOf 20 = .ok (.ifCond .le 7, 3) := by decide +kernel
theorem dX6_stepOf_23 : decode cX6_stepOf 23 = .ok (.iconst 1, 1) := by decide +kernel
theorem dX6_stepOf_24 : decode cX6_stepOf 24 = .ok (.goto 4, 3) := by decide +kernel
theorem dX6_stepOf_27 : decode cX6_stepOf 27 = .ok (.iconst 0, 1) := by decide +kernel
theorem dX6_stepOf_28 : decode cX6_stepOf 28 = .ok (.ireturn, 1) := by decide +kernel
theorem dX6_stepOf_29 : decode cX6_stepOf 29 = .ok (.aload_n 0, 1) := by decide +kernel
theorem dX6_stepOf_30 : decode cX6_stepOf 30 = .ok (.invokevirtual 239, 3) := by decide +kernel
theorem dX6_stepOf_33 : decode cX6_stepOf 33 = .ok (.ifCond .ne 17, 3) := by decide +kernel
theorem dX6_stepOf_36 : decode cX6_stepOf 36 = .ok (.aload_n 0, 1) := by decide +kernel
theorem dX6_stepOf_37 : decode cX6_stepOf 37 = .ok (.iconst 2, 1) := by decide +kernel
theorem dX6_stepOf_38 : decode cX6_stepOf 38 = .ok (.invokevirtual 208, 3) := by decide +kernel
theorem dX6_stepOf_41 : decode cX6_stepOf 41 = .ok (.ifCond .le 7, 3) := by decide +kernel
theorem dX6_stepOf_44 : decode cX6_stepOf 44 = .ok (.iconst 1, 1) := by decide +kernel
theorem dX6_stepOf_45 : decode cX6_stepOf 45 = .ok (.goto 4, 3) := by decide +kernel
theorem dX6_stepOf_48 : decode cX6_stepOf 48 = .ok (.iconst 0, 1) := by decide +kernel
theorem dX6_stepOf_49 : decode cX6_stepOf 49 = .ok (.ireturn, 1) := by decide +kernel
theorem dX6_stepOf_50 : decode cX6_stepOf 50 = .ok (.aload_n 0, 1) := by decide +kernel
theorem dX6_stepOf_51 : decode cX6_stepOf 51 = .ok (.iload_n 1, 1) := by decide +kernel
theorem dX6_stepOf_52 : decode cX6_stepOf 52 = .ok (.iload_n 3, 1) := by decide +kernel
theorem dX6_stepOf_53 : decode cX6_stepOf 53 = .ok (.iconst 0, 1) := by decide +kernel
theorem dX6_stepOf_54 : decode cX6_stepOf 54 = .ok (.invokevirtual 246, 3) := by decide +kernel
theorem dX6_stepOf_57 : decode cX6_stepOf 57 = .ok (.aload_n 0, 1) := by decide +kernel
theorem dX6_stepOf_58 : decode cX6_stepOf 58 = .ok (.getfield 86, 3) := by decide +kernel
theorem dX6_stepOf_61 : decode cX6_stepOf 61 = .ok (.ireturn, 1) := by decide +kernel
theorem dX6_given_0 : decode cX6_given 0 = .ok (.aload_n 0, 1) := by decide +kernel
theorem dX6_given_1 : decode cX6_given 1 = .ok (.iconst 0, 1) := by decide +kernel
theorem dX6_given_2 : decode cX6_given 2 = .ok (.putfield 93, 3) := by decide +kernel
theorem dX6_given_5 : decode cX6_given 5 = .ok (.aload_n 0, 1) := by decide +kernel
theorem dX6_given_6 : decode cX6_given 6 = .ok (.iload_n 1, 1) := by decide +kernel
theorem dX6_given_7 : decode cX6_given 7 = .ok (.invokevirtual 233, 3) := by decide +kernel
theorem dX6_given_10 : decode cX6_given 10 = .ok (.istore_n 3, 1) := by decide +kernel
theorem dX6_given_11 : decode cX6_given 11 = .ok (.aload_n 0, 1) := by decide +kernel
theorem dX6_given_12 : decode cX6_given 12 = .ok (.iload_n 2, 1) := by decide +kernel
theorem dX6_given_13 : decode cX6_given 13 = .ok (.invokevirtual 236, 3) := by decide +kernel
theorem dX6_given_16 : decode cX6_given 16 = .ok (.istore 4, 2) := by decide +kernel
theorem dX6_given_18 : decode cX6_given 18 = .ok (.iload_n 3, 1) := by decide +kernel
theorem dX6_given_19 : decode cX6_given 19 = .ok (.ifCond .eq 8, 3) := by decide +kernel
theorem dX6_given_22 : decode cX6_given 22 = .ok (.iload 4, 2) := by decide +kernel
theorem dX6_given_24 : decode cX6_given 24 = .ok (.ifCond .ne 17, 3) := by decide +kernel
theorem dX6_given_27 : decode cX6_given 27 = .ok (.aload_n 0, 1) := by decide +kernel
theorem dX6_given_28 : decode cX6_given 28 = .ok (.iconst 1, 1) := by decide +kernel
theorem dX6_given_29 : decode cX6_given 29 = .ok (.invokevirtual 208, 3) := by decide +kernel
theorem dX6_given_32 : decode cX6_given 32 = .ok (.ifCond .le 7, 3) := by decide +kernel
theorem dX6_given_35 : decode cX6_given 35 = .ok (.iconst 1, 1) := by decide +kernel
theorem dX6_given_36 : decode cX6_given 36 = .ok (.goto 4, 3) := by decide +kernel
theorem dX6_given_39 : decode cX6_given 39 = .ok (.iconst 0, 1) := by decide +kernel
theorem dX6_given_40 : decode cX6_given 40 = .ok (.ireturn, 1) := by decide +kernel
theorem dX6_given_41 : decode cX6_given 41 = .ok (.aload_n 0, 1) := by decide +kernel
theorem dX6_given_42 : decode cX6_given 42 = .ok (.invokevirtual 239, 3) := by decide +kernel
theorem dX6_given_45 : decode cX6_given 45 = .ok (.ifCond .ne 17, 3) := by decide +kernel
theorem dX6_given_48 : decode cX6_given 48 = .ok (.aload_n 0, 1) := by decide +kernel
theorem dX6_given_49 : decode cX6_given 49 = .ok (.iconst 2, 1) := by decide +kernel
theorem dX6_given_50 : decode cX6_given 50 = .ok (.invokevirtual 208, 3) := by decide +kernel
theorem dX6_given_53 : decode cX6_given 53 = .ok (.ifCond .le 7, 3) := by decide +kernel
theorem dX6_given_56 : decode cX6_given 56 = .ok (.iconst 1, 1) := by decide +kernel
theorem dX6_given_57 : decode cX6_given 57 = .ok (.goto 4, 3) := by decide +kernel
theorem dX6_given_60 : decode cX6_given 60 = .ok (.iconst 0, 1) := by decide +kernel
theorem dX6_given_61 : decode cX6_given 61 = .ok (.ireturn, 1) := by decide +kernel
theorem dX6_given_62 : decode cX6_given 62 = .ok (.aload_n 0, 1) := by decide +kernel
theorem dX6_given_63 : decode cX6_given 63 = .ok (.iconst 4, 1) := by decide +kernel
theorem dX6_given_64 : decode cX6_given 64 = .ok (.iload 4, 2) := by decide +kernel
theorem dX6_given_66 : decode cX6_given 66 = .ok (.iload_n 3, 1) := by decide +kernel
theorem dX6_given_67 : decode cX6_given 67 = .ok (.invokevirtual 246, 3) := by decide +kernel
theorem dX6_given_70 : decode cX6_given 70 = .ok (.aload_n 0, 1) := by decide +kernel
theorem dX6_given_71 : decode cX6_given 71 = .ok (.getfield 86, 3) := by decide +kernel
theorem dX6_given_74 : decode cX6_given 74 = .ok (.ireturn, 1) := by decide +kernel
