theorem dX6_behind_0 : decode cX6_behind 0 = .ok (.aload_n 0, 1) := by decide +kernel
theorem dX6_behind_1 : decode cX6_behind 1 = .ok (.getfield 7, 3) := by decide +kernel
theorem dX6_behind_4 : decode cX6_behind 4 = .ok (.iload_n 2, 1) := by decide +kernel
theorem dX6_behind_5 : decode cX6_behind 5 = .ok (.iaload, 1) := by decide +kernel
theorem dX6_behind_6 : decode cX6_behind 6 = .ok (.bipush 7, 2) := by decide +kernel
theorem dX6_behind_8 : decode cX6_behind 8 = .ok (.if_icmp .ne 12, 3) := by decide +kernel
theorem dX6_behind_11 : decode cX6_behind 11 = .ok (.aload_n 0, 1) := by decide +kernel
theorem dX6_behind_12 : decode cX6_behind 12 = .ok (.getfield 19, 3) := by decide +kernel
theorem dX6_behind_15 : decode cX6_behind 15 = .ok (.iload_n 2, 1) := by decide +kernel
theorem dX6_behind_16 : decode cX6_behind 16 = .ok (.iaload, 1) := by decide +kernel
theorem dX6_behind_17 : decode cX6_behind 17 = .ok (.goto 4, 3) := by decide +kernel
theorem dX6_behind_20 : decode cX6_behind 20 = .ok (.iconst 1, 1) := by decide +kernel
theorem dX6_behind_21 : decode cX6_behind 21 = .ok (.istore_n 3, 1) := by decide +kernel
theorem dX6_behind_22 : decode cX6_behind 22 = .ok (.iload_n 3, 1) := by decide +kernel
theorem dX6_behind_23 : decode cX6_behind 23 = .ok (.aload_n 0, 1) := by decide +kernel
theorem dX6_behind_24 : decode cX6_behind 24 = .ok (.getfield 19, 3) := by decide +kernel
theorem dX6_behind_27 : decode cX6_behind 27 = .ok (.iload_n 1, 1) := by decide +kernel
theorem dX6_behind_28 : decode cX6_behind 28 = .ok (.iaload, 1) := by decide +kernel
theorem dX6_behind_29 : decode cX6_behind 29 = .ok (.if_icmp .le 5, 3) := by decide +kernel
theorem dX6_behind_32 : decode cX6_behind 32 = .ok (.iconst 0, 1) := by decide +kernel
theorem dX6_behind_33 : decode cX6_behind 33 = .ok (.ireturn, 1) := by decide +kernel
theorem dX6_behind_34 : decode cX6_behind 34 = .ok (.iconst 0, 1) := by decide +kernel
theorem dX6_behind_35 : decode cX6_behind 35 = .ok (.istore 4, 2) := by decide +kernel
theorem dX6_behind_37 : decode cX6_behind 37 = .ok (.iload 4, 2) := by decide +kernel
theorem dX6_behind_39 : decode cX6_behind 39 = .ok (.iload_n 3, 1) := by decide +kernel
theorem dX6_behind_40 : decode cX6_behind 40 = .ok (.if_icmp .ge 43, 3) := by decide +kernel
theorem dX6_behind_43 : decode cX6_behind 43 = .ok (.aload_n 0, 1) := by decide +kernel
theorem dX6_behind_44 : decode cX6_behind 44 = .ok (.iload_n 1, 1) := by decide +kernel
theorem dX6_behind_45 : decode cX6_behind 45 = .ok (.iload 4, 2) := by decide +kernel
theorem dX6_behind_47 : decode cX6_behind 47 = .ok (.invokevirtual 110, 3) := by decide +kernel
theorem dX6_behind_50 : decode cX6_behind 50 = .ok (.aload_n 0, 1) := by decide +kernel
theorem dX6_behind_51 : decode cX6_behind 51 = .ok (.getfield 7, 3) := by decide +kernel
theorem dX6_behind_54 : decode cX6_behind 54 = .ok (.iload_n 2, 1) := by decide +kernel
theorem dX6_behind_55 : decode cX6_behind 55 = .ok (.iaload, 1) := by decide +kernel
theorem dX6_behind_56 : decode cX6_behind 56 = .ok (.bipush 7, 2) := by decide +kernel
theorem dX6_behind_58 : decode cX6_behind 58 = .ok (.if_icmp .ne 13, 3) := by decide +kernel
theorem dX6_behind_61 : decode cX6_behind 61 = .ok (.aload_n 0, 1) := by decide +kernel
theorem dX6_behind_62 : decode cX6_behind 62 = .ok (.iload_n 2, 1) := by decide +kernel
theorem dX6_behind_63 : decode cX6_behind 63 = .ok (.iload 4, 2) := by decide +kernel
theorem dX6_behind_65 : decode cX6_behind 65 = .ok (.invokevirtual 110, 3) := by decide +kernel
theorem dX6_behind_68 : decode cX6_behind 68 = .ok (.goto 4, 3) := by decide +kernel
theorem dX6_behind_71 : decode cX6_behind 71 = .ok (.iload_n 2, 1) := by decide +kernel
theorem dX6_behind_72 : decode cX6_behind 72 = .ok (.if_icmp .eq 5, 3) := by decide +kernel
theorem dX6_behind_75 : decode cX6_behind 75 = .ok (.iconst 0, 1) := by decide +kernel
theorem dX6_behind_76 : decode cX6_behind 76 = .ok (.ireturn, 1) := by decide +kernel
theorem dX6_behind_77 : decode cX6_behind 77 = .ok (.iinc 4 1, 3) := by decide +kernel
theorem dX6_behind_80 : decode cX6_behind 80 = .ok (.goto (-43), 3) := by decide +kernel
theorem dX6_behind_83 : decode cX6_behind 83 = .ok (.aload_n 0, 1) := by decide +kernel
theorem dX6_behind_84 : decode cX6_behind 84 = .ok (.getfield 103, 3) := by decide +kernel
theorem dX6_behind_87 : decode cX6_behind 87 = .ok (.istore 4, 2) := by decide +kernel
theorem dX6_behind_89 : decode cX6_behind 89 = .ok (.iload_n 3, 1) := by decide +kernel
theorem dX6_behind_90 : decode cX6_behind 90 = .ok (.istore 5, 2) := by decide +kernel
theorem dX6_behind_92 : decode cX6_behind 92 = .ok (.iload 5, 2) := by decide +kernel
theorem dX6_behind_94 : decode cX6_behind 94 = .ok (.aload_n 0, 1) := by decide +kernel
theorem dX6_behind_95 : decode cX6_behind 95 = .ok (.getfield 19, 3) := by decide +kernel
theorem dX6_behind_98 : decode cX6_behind 98 = .ok (.iload_n 1, 1) := by decide +kernel
theorem dX6_behind_99 : decode cX6_behind 99 = .ok (.iaload, 1) := by decide +kernel
theorem dX6_behind_100 : decode cX6_behind 100 = .ok (.if_icmp .ge 20, 3) := by decide +kernel
theorem dX6_behind_103 : decode cX6_behind 103 = .ok (.aload_n 0, 1) := by decide +kernel
theorem dX6_behind_104 : decode cX6_behind 104 = .ok (.aload_n 0, 1) := by decide +kernel
theorem dX6_behind_105 : decode cX6_behind 105 = .ok (.iload_n 1, 1) := by decide +kernel
theorem dX6_behind_106 : decode cX6_behind 106 = .ok (.iload 5, 2) := by decide +kernel
theorem dX6_behind_108 : decode cX6_behind 108 = .ok (.invokevirtual 110, 3) := by decide +kernel
theorem dX6_behind_111 : decode cX6_behind 111 = .ok (.invokevirtual 130, 3) := by decide +kernel
theorem dX6_behind_114 : decode cX6_behind 114 = .ok (.iinc 5 1, 3) := by decide +kernel
theorem dX6_behind_117 : decode cX6_behind 117 = .ok (.goto (-25), 3) := by decide +kernel
theorem dX6_behind_120 : decode cX6_behind 120 = .ok (.aload_n 0, 1) := by decide +kernel
theorem dX6_behind_121 : decode cX6_behind 121 = .ok (.iload 4, 2) := by decide +kernel
theorem dX6_behind_123 : decode cX6_behind 123 = .ok (.invokevirtual 150, 3) := by decide +kernel
theorem dX6_behind_126 : decode cX6_behind 126 = .ok (.ireturn, 1) := by decide +kernel
