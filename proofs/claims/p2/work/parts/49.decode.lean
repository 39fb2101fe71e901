theorem dX6_free_0 : decode cX6_free 0 = .ok (.iload_n 1, 1) := by decide +kernel
theorem dX6_free_1 : decode cX6_free 1 = .ok (.iload_n 2, 1) := by decide +kernel
theorem dX6_free_2 : decode cX6_free 2 = .ok (.if_icmp .ne 10, 3) := by decide +kernel
theorem dX6_free_5 : decode cX6_free 5 = .ok (.aload_n 0, 1) := by decide +kernel
theorem dX6_free_6 : decode cX6_free 6 = .ok (.iconst 2, 1) := by decide +kernel
theorem dX6_free_7 : decode cX6_free 7 = .ok (.iload_n 3, 1) := by decide +kernel
theorem dX6_free_8 : decode cX6_free 8 = .ok (.invokevirtual 141, 3) := by decide +kernel
theorem dX6_free_11 : decode cX6_free 11 = .ok (.ireturn, 1) := by decide +kernel
theorem dX6_free_12 : decode cX6_free 12 = .ok (.aload_n 0, 1) := by decide +kernel
theorem dX6_free_13 : decode cX6_free 13 = .ok (.getfield 7, 3) := by decide +kernel
theorem dX6_free_16 : decode cX6_free 16 = .ok (.iload_n 1, 1) := by decide +kernel
theorem dX6_free_17 : decode cX6_free 17 = .ok (.iaload, 1) := by decide +kernel
theorem dX6_free_18 : decode cX6_free 18 = .ok (.iconst 2, 1) := by decide +kernel
theorem dX6_free_19 : decode cX6_free 19 = .ok (.if_icmp .ne 31, 3) := by decide +kernel
theorem dX6_free_22 : decode cX6_free 22 = .ok (.aload_n 0, 1) := by decide +kernel
theorem dX6_free_23 : decode cX6_free 23 = .ok (.getfield 13, 3) := by decide +kernel
theorem dX6_free_26 : decode cX6_free 26 = .ok (.iload_n 1, 1) := by decide +kernel
theorem dX6_free_27 : decode cX6_free 27 = .ok (.iaload, 1) := by decide +kernel
theorem dX6_free_28 : decode cX6_free 28 = .ok (.iload_n 3, 1) := by decide +kernel
theorem dX6_free_29 : decode cX6_free 29 = .ok (.if_icmp .lt 19, 3) := by decide +kernel
theorem dX6_free_32 : decode cX6_free 32 = .ok (.aload_n 0, 1) := by decide +kernel
theorem dX6_free_33 : decode cX6_free 33 = .ok (.iconst 2, 1) := by decide +kernel
theorem dX6_free_34 : decode cX6_free 34 = .ok (.aload_n 0, 1) := by decide +kernel
theorem dX6_free_35 : decode cX6_free 35 = .ok (.getfield 13, 3) := by decide +kernel
theorem dX6_free_38 : decode cX6_free 38 = .ok (.iload_n 1, 1) := by decide +kernel
theorem dX6_free_39 : decode cX6_free 39 = .ok (.iaload, 1) := by decide +kernel
theorem dX6_free_40 : decode cX6_free 40 = .ok (.iconst 1, 1) := by decide +kernel
theorem dX6_free_41 : decode cX6_free 41 = .ok (.iadd, 1) := by decide +kernel
theorem dX6_free_42 : decode cX6_free 42 = .ok (.invokevirtual 141, 3) := by decide +kernel
theorem dX6_free_45 : decode cX6_free 45 = .ok (.goto 4, 3) := by decide +kernel
theorem dX6_free_48 : decode cX6_free 48 = .ok (.iload_n 1, 1) := by decide +kernel
theorem dX6_free_49 : decode cX6_free 49 = .ok (.ireturn, 1) := by decide +kernel
theorem dX6_free_50 : decode cX6_free 50 = .ok (.aload_n 0, 1) := by decide +kernel
theorem dX6_free_51 : decode cX6_free 51 = .ok (.getfield 19, 3) := by decide +kernel
theorem dX6_free_54 : decode cX6_free 54 = .ok (.iload_n 1, 1) := by decide +kernel
theorem dX6_free_55 : decode cX6_free 55 = .ok (.iaload, 1) := by decide +kernel
theorem dX6_free_56 : decode cX6_free 56 = .ok (.ifCond .ne 5, 3) := by decide +kernel
theorem dX6_free_59 : decode cX6_free 59 = .ok (.iload_n 1, 1) := by decide +kernel
theorem dX6_free_60 : decode cX6_free 60 = .ok (.ireturn, 1) := by decide +kernel
theorem dX6_free_61 : decode cX6_free 61 = .ok (.aload_n 0, 1) := by decide +kernel
theorem dX6_free_62 : decode cX6_free 62 = .ok (.getfield 103, 3) := by decide +kernel
theorem dX6_free_65 : decode cX6_free 65 = .ok (.istore 4, 2) := by decide +kernel
theorem dX6_free_67 : decode cX6_free 67 = .ok (.iconst 0, 1) := by decide +kernel
theorem dX6_free_68 : decode cX6_free 68 = .ok (.istore 5, 2) := by decide +kernel
theorem dX6_free_70 : decode cX6_free 70 = .ok (.iload 5, 2) := by decide +kernel
theorem dX6_free_72 : decode cX6_free 72 = .ok (.aload_n 0, 1) := by decide +kernel
theorem dX6_free_73 : decode cX6_free 73 = .ok (.getfield 19, 3) := by decide +kernel
theorem dX6_free_76 : decode cX6_free 76 = .ok (.iload_n 1, 1) := by decide +kernel
theorem dX6_free_77 : decode cX6_free 77 = .ok (.iaload, 1) := by decide +kernel
theorem dX6_free_78 : decode cX6_free 78 = .ok (.if_icmp .ge 35, 3) := by decide +kernel
theorem dX6_free_81 : decode cX6_free 81 = .ok (.aload_n 0, 1) := by decide +kernel
theorem dX6_free_82 : decode cX6_free 82 = .ok (.aload_n 0, 1) := by decide +kernel
theorem dX6_free_83 : decode cX6_free 83 = .ok (.iload_n 1, 1) := by decide +kernel
theorem dX6_free_84 : decode cX6_free 84 = .ok (.iload 5, 2) := by decide +kernel
theorem dX6_free_86 : decode cX6_free 86 = .ok (.invokevirtual 110, 3) := by decide +kernel
theorem dX6_free_89 : decode cX6_free 89 = .ok (.iload_n 2, 1) := by decide +kernel
theorem dX6_free_90 : decode cX6_free 90 = .ok (.aload_n 0, 1) := by decide +kernel
theorem dX6_free_91 : decode cX6_free 91 = .ok (.iload_n 1, 1) := by decide +kernel
theorem dX6_free_92 : decode cX6_free 92 = .ok (.iload_n 3, 1) := by decide +kernel
theorem dX6_free_93 : decode cX6_free 93 = .ok (.invokevirtual 162, 3) := by decide +kernel
theorem dX6_free_96 : decode cX6_free 96 = .ok (.invokevirtual 171, 3) := by decide +kernel
theorem dX6_free_99 : decode cX6_free 99 = .ok (.istore 6, 2) := by decide +kernel
theorem dX6_free_101 : decode cX6_free 101 = .ok (.aload_n 0, 1) := by decide +kernel
theorem dX6_free_102 : decode cX6_free 102 = .ok (.iload 6, 2) := by decide +kernel
theorem dX6_free_104 : decode cX6_free 104 = .ok (.invokevirtual 130, 3) := by decide +kernel
theorem dX6_free_107 : decode cX6_free 107 = .ok (.iinc 5 1, 3) := by decide +kernel
theorem dX6_free_110 : decode cX6_free 110 = .ok (.goto (-40), 3) := by decide +kernel
theorem dX6_free_113 : decode cX6_free 113 = .ok (.aload_n 0, 1) := by decide +kernel
theorem dX6_free_114 : decode cX6_free 114 = .ok (.iload_n 1, 1) := by decide +kernel
theorem dX6_free_115 : decode cX6_free 115 = .ok (.iload 4, 2) := by decide +kernel
theorem dX6_free_117 : decode cX6_free 117 = .ok (.invokevirtual 168, 3) := by decide +kernel
theorem dX6_free_120 : decode cX6_free 120 = .ok (.ireturn, 1) := by decide +kernel
