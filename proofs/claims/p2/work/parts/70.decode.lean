theorem dX6_take_0 : decode cX6_take 0 = .ok (.aload_n 0, 1) := by decide +kernel
theorem dX6_take_1 : decode cX6_take 1 = .ok (.iconst 0, 1) := by decide +kernel
theorem dX6_take_2 : decode cX6_take 2 = .ok (.putfield 93, 3) := by decide +kernel
theorem dX6_take_5 : decode cX6_take 5 = .ok (.aload_n 0, 1) := by decide +kernel
theorem dX6_take_6 : decode cX6_take 6 = .ok (.iload_n 1, 1) := by decide +kernel
theorem dX6_take_7 : decode cX6_take 7 = .ok (.invokevirtual 233, 3) := by decide +kernel
theorem dX6_take_10 : decode cX6_take 10 = .ok (.istore_n 2, 1) := by decide +kernel
theorem dX6_take_11 : decode cX6_take 11 = .ok (.iload_n 2, 1) := by decide +kernel
theorem dX6_take_12 : decode cX6_take 12 = .ok (.ifCond .ne 17, 3) := by decide +kernel
theorem dX6_take_15 : decode cX6_take 15 = .ok (.aload_n 0, 1) := by decide +kernel
theorem dX6_take_16 : decode cX6_take 16 = .ok (.iconst 1, 1) := by decide +kernel
theorem dX6_take_17 : decode cX6_take 17 = .ok (.invokevirtual 208, 3) := by decide +kernel
theorem dX6_take_20 : decode cX6_take 20 = .ok (.ifCond .le 7, 3) := by decide +kernel
theorem dX6_take_23 : decode cX6_take 23 = .ok (.iconst 1, 1) := by decide +kernel
theorem dX6_take_24 : decode cX6_take 24 = .ok (.goto 4, 3) := by decide +kernel
theorem dX6_take_27 : decode cX6_take 27 = .ok (.iconst 0, 1) := by decide +kernel
theorem dX6_take_28 : decode cX6_take 28 = .ok (.ireturn, 1) := by decide +kernel
theorem dX6_take_29 : decode cX6_take 29 = .ok (.aload_n 0, 1) := by decide +kernel
theorem dX6_take_30 : decode cX6_take 30 = .ok (.invokevirtual 239, 3) := by decide +kernel
theorem dX6_take_33 : decode cX6_take 33 = .ok (.ifCond .eq 18, 3) := by decide +kernel
theorem dX6_take_36 : decode cX6_take 36 = .ok (.aload_n 0, 1) := by decide +kernel
theorem dX6_take_37 : decode cX6_take 37 = .ok (.getfield 52, 3) := by decide +kernel
theorem dX6_take_40 : decode cX6_take 40 = .ok (.aload_n 0, 1) := by decide +kernel
theorem dX6_take_41 : decode cX6_take 41 = .ok (.getfield 187, 3) := by decide +kernel
theorem dX6_take_44 : decode cX6_take 44 = .ok (.iconst 1, 1) := by decide +kernel
theorem dX6_take_45 : decode cX6_take 45 = .ok (.isub, 1) := by decide +kernel
theorem dX6_take_46 : decode cX6_take 46 = .ok (.iaload, 1) := by decide +kernel
theorem dX6_take_47 : decode cX6_take 47 = .ok (.iconst 2, 1) := by decide +kernel
theorem dX6_take_48 : decode cX6_take 48 = .ok (.if_icmp .ne 17, 3) := by decide +kernel
theorem dX6_take_51 : decode cX6_take 51 = .ok (.aload_n 0, 1) := by decide +kernel
theorem dX6_take_52 : decode cX6_take 52 = .ok (.iconst 2, 1) := by decide +kernel
theorem dX6_take_53 : decode cX6_take 53 = .ok (.invokevirtual 208, 3) := by decide +kernel
theorem dX6_take_56 : decode cX6_take 56 = .ok (.ifCond .le 7, 3) := by decide +kernel
theorem dX6_take_59 : decode cX6_take 59 = .ok (.iconst 1, 1) := by decide +kernel
theorem dX6_take_60 : decode cX6_take 60 = .ok (.goto 4, 3) := by decide +kernel
theorem dX6_take_63 : decode cX6_take 63 = .ok (.iconst 0, 1) := by decide +kernel
theorem dX6_take_64 : decode cX6_take 64 = .ok (.ireturn, 1) := by decide +kernel
theorem dX6_take_65 : decode cX6_take 65 = .ok (.aload_n 0, 1) := by decide +kernel
theorem dX6_take_66 : decode cX6_take 66 = .ok (.iconst 3, 1) := by decide +kernel
theorem dX6_take_67 : decode cX6_take 67 = .ok (.iload_n 2, 1) := by decide +kernel
theorem dX6_take_68 : decode cX6_take 68 = .ok (.iconst 0, 1) := by decide +kernel
theorem dX6_take_69 : decode cX6_take 69 = .ok (.invokevirtual 246, 3) := by decide +kernel
theorem dX6_take_72 : decode cX6_take 72 = .ok (.aload_n 0, 1) := by decide +kernel
theorem dX6_take_73 : decode cX6_take 73 = .ok (.getfield 86, 3) := by decide +kernel
theorem dX6_take_76 : decode cX6_take 76 = .ok (.ireturn, 1) := by decide +kernel
