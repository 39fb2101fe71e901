theorem dX6_opened_0 : decode cX6_opened 0 = .ok (.aload_n 0, 1) := by decide +kernel
theorem dX6_opened_1 : decode cX6_opened 1 = .ok (.getfield 7, 3) := by decide +kernel
theorem dX6_opened_4 : decode cX6_opened 4 = .ok (.iload_n 1, 1) := by decide +kernel
theorem dX6_opened_5 : decode cX6_opened 5 = .ok (.iaload, 1) := by decide +kernel
theorem dX6_opened_6 : decode cX6_opened 6 = .ok (.bipush 6, 2) := by decide +kernel
theorem dX6_opened_8 : decode cX6_opened 8 = .ok (.if_icmp .ne 28, 3) := by decide +kernel
theorem dX6_opened_11 : decode cX6_opened 11 = .ok (.aload_n 0, 1) := by decide +kernel
theorem dX6_opened_12 : decode cX6_opened 12 = .ok (.aload_n 0, 1) := by decide +kernel
theorem dX6_opened_13 : decode cX6_opened 13 = .ok (.iload_n 1, 1) := by decide +kernel
theorem dX6_opened_14 : decode cX6_opened 14 = .ok (.iconst 0, 1) := by decide +kernel
theorem dX6_opened_15 : decode cX6_opened 15 = .ok (.invokevirtual 110, 3) := by decide +kernel
theorem dX6_opened_18 : decode cX6_opened 18 = .ok (.invokevirtual 181, 3) := by decide +kernel
theorem dX6_opened_21 : decode cX6_opened 21 = .ok (.istore_n 2, 1) := by decide +kernel
theorem dX6_opened_22 : decode cX6_opened 22 = .ok (.iload_n 2, 1) := by decide +kernel
theorem dX6_opened_23 : decode cX6_opened 23 = .ok (.ifCond .ne 7, 3) := by decide +kernel
theorem dX6_opened_26 : decode cX6_opened 26 = .ok (.iconst 0, 1) := by decide +kernel
theorem dX6_opened_27 : decode cX6_opened 27 = .ok (.goto 8, 3) := by decide +kernel
theorem dX6_opened_30 : decode cX6_opened 30 = .ok (.aload_n 0, 1) := by decide +kernel
theorem dX6_opened_31 : decode cX6_opened 31 = .ok (.iload_n 2, 1) := by decide +kernel
theorem dX6_opened_32 : decode cX6_opened 32 = .ok (.invokevirtual 154, 3) := by decide +kernel
theorem dX6_opened_35 : decode cX6_opened 35 = .ok (.ireturn, 1) := by decide +kernel
theorem dX6_opened_36 : decode cX6_opened 36 = .ok (.aload_n 0, 1) := by decide +kernel
theorem dX6_opened_37 : decode cX6_opened 37 = .ok (.getfield 7, 3) := by decide +kernel
theorem dX6_opened_40 : decode cX6_opened 40 = .ok (.iload_n 1, 1) := by decide +kernel
theorem dX6_opened_41 : decode cX6_opened 41 = .ok (.iaload, 1) := by decide +kernel
theorem dX6_opened_42 : decode cX6_opened 42 = .ok (.iconst 5, 1) := by decide +kernel
theorem dX6_opened_43 : decode cX6_opened 43 = .ok (.if_icmp .ne 17, 3) := by decide +kernel
theorem dX6_opened_46 : decode cX6_opened 46 = .ok (.aload_n 0, 1) := by decide +kernel
theorem dX6_opened_47 : decode cX6_opened 47 = .ok (.getfield 49, 3) := by decide +kernel
theorem dX6_opened_50 : decode cX6_opened 50 = .ok (.aload_n 0, 1) := by decide +kernel
theorem dX6_opened_51 : decode cX6_opened 51 = .ok (.getfield 13, 3) := by decide +kernel
theorem dX6_opened_54 : decode cX6_opened 54 = .ok (.iload_n 1, 1) := by decide +kernel
theorem dX6_opened_55 : decode cX6_opened 55 = .ok (.iaload, 1) := by decide +kernel
theorem dX6_opened_56 : decode cX6_opened 56 = .ok (.iaload, 1) := by decide +kernel
theorem dX6_opened_57 : decode cX6_opened 57 = .ok (.ifCond .ne 7, 3) := by decide +kernel
theorem dX6_opened_60 : decode cX6_opened 60 = .ok (.iconst 0, 1) := by decide +kernel
theorem dX6_opened_61 : decode cX6_opened 61 = .ok (.goto 19, 3) := by decide +kernel
theorem dX6_opened_64 : decode cX6_opened 64 = .ok (.aload_n 0, 1) := by decide +kernel
theorem dX6_opened_65 : decode cX6_opened 65 = .ok (.aload_n 0, 1) := by decide +kernel
theorem dX6_opened_66 : decode cX6_opened 66 = .ok (.getfield 49, 3) := by decide +kernel
theorem dX6_opened_69 : decode cX6_opened 69 = .ok (.aload_n 0, 1) := by decide +kernel
theorem dX6_opened_70 : decode cX6_opened 70 = .ok (.getfield 13, 3) := by decide +kernel
theorem dX6_opened_73 : decode cX6_opened 73 = .ok (.iload_n 1, 1) := by decide +kernel
theorem dX6_opened_74 : decode cX6_opened 74 = .ok (.iaload, 1) := by decide +kernel
theorem dX6_opened_75 : decode cX6_opened 75 = .ok (.iaload, 1) := by decide +kernel
theorem dX6_opened_76 : decode cX6_opened 76 = .ok (.iload_n 1, 1) := by decide +kernel
theorem dX6_opened_77 : decode cX6_opened 77 = .ok (.invokevirtual 174, 3) := by decide +kernel
theorem dX6_opened_80 : decode cX6_opened 80 = .ok (.ireturn, 1) := by decide +kernel
