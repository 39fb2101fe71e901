theorem dX6_write_0 : decode cX6_write 0 = .ok (.aload_n 0, 1) := by decide +kernel
theorem dX6_write_1 : decode cX6_write 1 = .ok (.aload_n 0, 1) := by decide +kernel
theorem dX6_write_2 : decode cX6_write 2 = .ok (.getfield 43, 3) := by decide +kernel
theorem dX6_write_5 : decode cX6_write 5 = .ok (.aload_n 0, 1) := by decide +kernel
theorem dX6_write_6 : decode cX6_write 6 = .ok (.getfield 119, 3) := by decide +kernel
theorem dX6_write_9 : decode cX6_write 9 = .ok (.iconst 3, 1) := by decide +kernel
theorem dX6_write_10 : decode cX6_write 10 = .ok (.iadd, 1) := by decide +kernel
theorem dX6_write_11 : decode cX6_write 11 = .ok (.invokestatic 106, 3) := by decide +kernel
theorem dX6_write_14 : decode cX6_write 14 = .ok (.putfield 43, 3) := by decide +kernel
theorem dX6_write_17 : decode cX6_write 17 = .ok (.aload_n 0, 1) := by decide +kernel
theorem dX6_write_18 : decode cX6_write 18 = .ok (.getfield 43, 3) := by decide +kernel
theorem dX6_write_21 : decode cX6_write 21 = .ok (.aload_n 0, 1) := by decide +kernel
theorem dX6_write_22 : decode cX6_write 22 = .ok (.getfield 119, 3) := by decide +kernel
theorem dX6_write_25 : decode cX6_write 25 = .ok (.aload_n 0, 1) := by decide +kernel
theorem dX6_write_26 : decode cX6_write 26 = .ok (.getfield 7, 3) := by decide +kernel
theorem dX6_write_29 : decode cX6_write 29 = .ok (.iload_n 1, 1) := by decide +kernel
theorem dX6_write_30 : decode cX6_write 30 = .ok (.iaload, 1) := by decide +kernel
theorem dX6_write_31 : decode cX6_write 31 = .ok (.iastore, 1) := by decide +kernel
theorem dX6_write_32 : decode cX6_write 32 = .ok (.aload_n 0, 1) := by decide +kernel
theorem dX6_write_33 : decode cX6_write 33 = .ok (.getfield 43, 3) := by decide +kernel
theorem dX6_write_36 : decode cX6_write 36 = .ok (.aload_n 0, 1) := by decide +kernel
theorem dX6_write_37 : decode cX6_write 37 = .ok (.getfield 119, 3) := by decide +kernel
theorem dX6_write_40 : decode cX6_write 40 = .ok (.iconst 1, 1) := by decide +kernel
theorem dX6_write_41 : decode cX6_write 41 = .ok (.iadd, 1) := by decide +kernel
theorem dX6_write_42 : decode cX6_write 42 = .ok (.aload_n 0, 1) := by decide +kernel
theorem dX6_write_43 : decode cX6_write 43 = .ok (.getfield 13, 3) := by decide +kernel
theorem dX6_write_46 : decode cX6_write 46 = .ok (.iload_n 1, 1) := by decide +kernel
theorem dX6_write_47 : decode cX6_write 47 = .ok (.iaload, 1) := by decide +kernel
theorem dX6_write_48 : decode cX6_write 48 = .ok (.iastore, 1) := by decide +kernel
theorem dX6_write_49 : decode cX6_write 49 = .ok (.aload_n 0, 1) := by decide +kernel
theorem dX6_write_50 : decode cX6_write 50 = .ok (.getfield 43, 3) := by decide +kernel
theorem dX6_write_53 : decode cX6_write 53 = .ok (.aload_n 0, 1) := by decide +kernel
theorem dX6_write_54 : decode cX6_write 54 = .ok (.getfield 119, 3) := by decide +kernel
theorem dX6_write_57 : decode cX6_write 57 = .ok (.iconst 2, 1) := by decide +kernel
theorem dX6_write_58 : decode cX6_write 58 = .ok (.iadd, 1) := by decide +kernel
theorem dX6_write_59 : decode cX6_write 59 = .ok (.aload_n 0, 1) := by decide +kernel
theorem dX6_write_60 : decode cX6_write 60 = .ok (.getfield 19, 3) := by decide +kernel
theorem dX6_write_63 : decode cX6_write 63 = .ok (.iload_n 1, 1) := by decide +kernel
theorem dX6_write_64 : decode cX6_write 64 = .ok (.iaload, 1) := by decide +kernel
theorem dX6_write_65 : decode cX6_write 65 = .ok (.iastore, 1) := by decide +kernel
theorem dX6_write_66 : decode cX6_write 66 = .ok (.aload_n 0, 1) := by decide +kernel
theorem dX6_write_67 : decode cX6_write 67 = .ok (.dup, 1) := by decide +kernel
theorem dX6_write_68 : decode cX6_write 68 = .ok (.getfield 119, 3) := by decide +kernel
theorem dX6_write_71 : decode cX6_write 71 = .ok (.iconst 3, 1) := by decide +kernel
theorem dX6_write_72 : decode cX6_write 72 = .ok (.iadd, 1) := by decide +kernel
theorem dX6_write_73 : decode cX6_write 73 = .ok (.putfield 119, 3) := by decide +kernel
theorem dX6_write_76 : decode cX6_write 76 = .ok (.iconst 0, 1) := by decide +kernel
theorem dX6_write_77 : decode cX6_write 77 = .ok (.istore_n 2, 1) := by decide +kernel
theorem dX6_write_78 : decode cX6_write 78 = .ok (.iload_n 2, 1) := by decide +kernel
theorem dX6_write_79 : decode cX6_write 79 = .ok (.aload_n 0, 1) := by decide +kernel
theorem dX6_write_80 : decode cX6_write 80 = .ok (.getfield 19, 3) := by decide +kernel
theorem dX6_write_83 : decode cX6_write 83 = .ok (.iload_n 1, 1) := by decide +kernel
theorem dX6_write_84 : decode cX6_write 84 = .ok (.iaload, 1) := by decide +kernel
theorem dX6_write_85 : decode cX6_write 85 = .ok (.if_icmp .ge 19, 3) := by decide +kernel
theorem dX6_write_88 : decode cX6_write 88 = .ok (.aload_n 0, 1) := by decide +kernel
theorem dX6_write_89 : decode cX6_write 89 = .ok (.aload_n 0, 1) := by decide +kernel
theorem dX6_write_90 : decode cX6_write 90 = .ok (.iload_n 1, 1) := by decide +kernel
theorem dX6_write_91 : decode cX6_write 91 = .ok (.iload_n 2, 1) := by decide +kernel
theorem dX6_write_92 : decode cX6_write 92 = .ok (.invokevirtual 110, 3) := by decide +kernel
theorem dX6_write_95 : decode cX6_write 95 = .ok (.invokevirtual 122, 3) := by decide +kernel
theorem dX6_write_98 : decode cX6_write 98 = .ok (.iinc 2 1, 3) := by decide +kernel
theorem dX6_write_101 : decode cX6_write 101 = .ok (.goto (-23), 3) := by decide +kernel
theorem dX6_write_104 : decode cX6_write 104 = .ok (.return_, 1) := by decide +kernel
