theorem dX6_define_0 : decode cX6_define 0 = .ok (.aload_n 0, 1) := by decide +kernel
theorem dX6_define_1 : decode cX6_define 1 = .ok (.iconst 0, 1) := by decide +kernel
theorem dX6_define_2 : decode cX6_define 2 = .ok (.putfield 93, 3) := by decide +kernel
theorem dX6_define_5 : decode cX6_define 5 = .ok (.aload_n 0, 1) := by decide +kernel
theorem dX6_define_6 : decode cX6_define 6 = .ok (.iload_n 2, 1) := by decide +kernel
theorem dX6_define_7 : decode cX6_define 7 = .ok (.invokevirtual 215, 3) := by decide +kernel
theorem dX6_define_10 : decode cX6_define 10 = .ok (.istore_n 3, 1) := by decide +kernel
theorem dX6_define_11 : decode cX6_define 11 = .ok (.iload_n 1, 1) := by decide +kernel
theorem dX6_define_12 : decode cX6_define 12 = .ok (.ifCond .lt 53, 3) := by decide +kernel
theorem dX6_define_15 : decode cX6_define 15 = .ok (.iload_n 1, 1) := by decide +kernel
theorem dX6_define_16 : decode cX6_define 16 = .ok (.aload_n 0, 1) := by decide +kernel
theorem dX6_define_17 : decode cX6_define 17 = .ok (.getfield 221, 3) := by decide +kernel
theorem dX6_define_20 : decode cX6_define 20 = .ok (.if_icmp .ge 45, 3) := by decide +kernel
theorem dX6_define_23 : decode cX6_define 23 = .ok (.iload_n 3, 1) := by decide +kernel
theorem dX6_define_24 : decode cX6_define 24 = .ok (.ifCond .eq 41, 3) := by decide +kernel
theorem dX6_define_27 : decode cX6_define 27 = .ok (.aload_n 0, 1) := by decide +kernel
theorem dX6_define_28 : decode cX6_define 28 = .ok (.getfield 46, 3) := by decide +kernel
theorem dX6_define_31 : decode cX6_define 31 = .ok (.iload_n 1, 1) := by decide +kernel
theorem dX6_define_32 : decode cX6_define 32 = .ok (.iaload, 1) := by decide +kernel
theorem dX6_define_33 : decode cX6_define 33 = .ok (.iconst 1, 1) := by decide +kernel
theorem dX6_define_34 : decode cX6_define 34 = .ok (.if_icmp .ge 12, 3) := by decide +kernel
theorem dX6_define_37 : decode cX6_define 37 = .ok (.aload_n 0, 1) := by decide +kernel
theorem dX6_define_38 : decode cX6_define 38 = .ok (.iload_n 3, 1) := by decide +kernel
theorem dX6_define_39 : decode cX6_define 39 = .ok (.iconst 0, 1) := by decide +kernel
theorem dX6_define_40 : decode cX6_define 40 = .ok (.invokevirtual 177, 3) := by decide +kernel
theorem dX6_define_43 : decode cX6_define 43 = .ok (.ifCond .ne 22, 3) := by decide +kernel
theorem dX6_define_46 : decode cX6_define 46 = .ok (.aload_n 0, 1) := by decide +kernel
theorem dX6_define_47 : decode cX6_define 47 = .ok (.getfield 46, 3) := by decide +kernel
theorem dX6_define_50 : decode cX6_define 50 = .ok (.iload_n 1, 1) := by decide +kernel
theorem dX6_define_51 : decode cX6_define 51 = .ok (.iaload, 1) := by decide +kernel
theorem dX6_define_52 : decode cX6_define 52 = .ok (.iconst 2, 1) := by decide +kernel
theorem dX6_define_53 : decode cX6_define 53 = .ok (.if_icmp .ge 26, 3) := by decide +kernel
theorem dX6_define_56 : decode cX6_define 56 = .ok (.aload_n 0, 1) := by decide +kernel
theorem dX6_define_57 : decode cX6_define 57 = .ok (.iload_n 3, 1) := by decide +kernel
theorem dX6_define_58 : decode cX6_define 58 = .ok (.iconst 1, 1) := by decide +kernel
theorem dX6_define_59 : decode cX6_define 59 = .ok (.invokevirtual 177, 3) := by decide +kernel
theorem dX6_define_62 : decode cX6_define 62 = .ok (.ifCond .eq 17, 3) := by decide +kernel
theorem dX6_define_65 : decode cX6_define 65 = .ok (.aload_n 0, 1) := by decide +kernel
theorem dX6_define_66 : decode cX6_define 66 = .ok (.iconst 1, 1) := by decide +kernel
theorem dX6_define_67 : decode cX6_define 67 = .ok (.invokevirtual 208, 3) := by decide +kernel
theorem dX6_define_70 : decode cX6_define 70 = .ok (.ifCond .le 7, 3) := by decide +kernel
theorem dX6_define_73 : decode cX6_define 73 = .ok (.iconst 1, 1) := by decide +kernel
theorem dX6_define_74 : decode cX6_define 74 = .ok (.goto 4, 3) := by decide +kernel
theorem dX6_define_77 : decode cX6_define 77 = .ok (.iconst 0, 1) := by decide +kernel
theorem dX6_define_78 : decode cX6_define 78 = .ok (.ireturn, 1) := by decide +kernel
theorem dX6_define_79 : decode cX6_define 79 = .ok (.aload_n 0, 1) := by decide +kernel
theorem dX6_define_80 : decode cX6_define 80 = .ok (.getfield 49, 3) := by decide +kernel
theorem dX6_define_83 : decode cX6_define 83 = .ok (.iload_n 1, 1) := by decide +kernel
theorem dX6_define_84 : decode cX6_define 84 = .ok (.iaload, 1) := by decide +kernel
theorem dX6_define_85 : decode cX6_define 85 = .ok (.ifCond .le 7, 3) := by decide +kernel
theorem dX6_define_88 : decode cX6_define 88 = .ok (.iconst 1, 1) := by decide +kernel
theorem dX6_define_89 : decode cX6_define 89 = .ok (.goto 4, 3) := by decide +kernel
theorem dX6_define_92 : decode cX6_define 92 = .ok (.iconst 0, 1) := by decide +kernel
theorem dX6_define_93 : decode cX6_define 93 = .ok (.istore 4, 2) := by decide +kernel
theorem dX6_define_95 : decode cX6_define 95 = .ok (.aload_n 0, 1) := by decide +kernel
theorem dX6_define_96 : decode cX6_define 96 = .ok (.getfield 49, 3) := by decide +kernel
theorem dX6_define_99 : decode cX6_define 99 = .ok (.iload_n 1, 1) := by decide +kernel
theorem dX6_define_100 : decode cX6_define 100 = .ok (.iload_n 3, 1) := by decide +kernel
theorem dX6_define_101 : decode cX6_define 101 = .ok (.iastore, 1) := by decide +kernel
theorem dX6_define_102 : decode cX6_define 102 = .ok (.iload 4, 2) := by decide +kernel
theorem dX6_define_104 : decode cX6_define 104 = .ok (.ireturn, 1) := by decide +kernel
