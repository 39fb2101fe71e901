theorem dX5_join_0 : decode cX5_join 0 = .ok (.iload_n 1, 1) := by decide +kernel
theorem dX5_join_1 : decode cX5_join 1 = .ok (.ifCond .lt 8, 3) := by decide +kernel
theorem dX5_join_4 : decode cX5_join 4 = .ok (.iload_n 1, 1) := by decide +kernel
theorem dX5_join_5 : decode cX5_join 5 = .ok (.iconst 5, 1) := by decide +kernel
theorem dX5_join_6 : decode cX5_join 6 = .ok (.if_icmp .le 13, 3) := by decide +kernel
theorem dX5_join_9 : decode cX5_join 9 = .ok (.new 51, 3) := by decide +kernel
theorem dX5_join_12 : decode cX5_join 12 = .ok (.dup, 1) := by decide +kernel
theorem dX5_join_13 : decode cX5_join 13 = .ok (.ldc 113, 2) := by decide +kernel
theorem dX5_join_15 : decode cX5_join 15 = .ok (.invokespecial 55, 3) := by decide +kernel
theorem dX5_join_18 : decode cX5_join 18 = .ok (.athrow, 1) := by decide +kernel
theorem dX5_join_19 : decode cX5_join 19 = .ok (.aload_n 0, 1) := by decide +kernel
theorem dX5_join_20 : decode cX5_join 20 = .ok (.iload_n 2, 1) := by decide +kernel
theorem dX5_join_21 : decode cX5_join 21 = .ok (.iload_n 1, 1) := by decide +kernel
theorem dX5_join_22 : decode cX5_join 22 = .ok (.iconst 5, 1) := by decide +kernel
theorem dX5_join_23 : decode cX5_join 23 = .ok (.if_icmp .eq 7, 3) := by decide +kernel
theorem dX5_join_26 : decode cX5_join 26 = .ok (.iconst 1, 1) := by decide +kernel
theorem dX5_join_27 : decode cX5_join 27 = .ok (.goto 4, 3) := by decide +kernel
theorem dX5_join_30 : decode cX5_join 30 = .ok (.iconst 0, 1) := by decide +kernel
theorem dX5_join_31 : decode cX5_join 31 = .ok (.invokevirtual 115, 3) := by decide +kernel
theorem dX5_join_34 : decode cX5_join 34 = .ok (.ifCond .eq 25, 3) := by decide +kernel
theorem dX5_join_37 : decode cX5_join 37 = .ok (.aload_n 0, 1) := by decide +kernel
theorem dX5_join_38 : decode cX5_join 38 = .ok (.iload_n 3, 1) := by decide +kernel
theorem dX5_join_39 : decode cX5_join 39 = .ok (.iload_n 1, 1) := by decide +kernel
theorem dX5_join_40 : decode cX5_join 40 = .ok (.iconst 5, 1) := by decide +kernel
theorem dX5_join_41 : decode cX5_join 41 = .ok (.if_icmp .eq 11, 3) := by decide +kernel
theorem dX5_join_44 : decode cX5_join 44 = .ok (.iload_n 1, 1) := by decide +kernel
theorem dX5_join_45 : decode cX5_join 45 = .ok (.ifCond .eq 7, 3) := by decide +kernel
theorem dX5_join_48 : decode cX5_join 48 = .ok (.iconst 1, 1) := by decide +kernel
theorem dX5_join_49 : decode cX5_join 49 = .ok (.goto 4, 3) := by decide +kernel
theorem dX5_join_52 : decode cX5_join 52 = .ok (.iconst 0, 1) := by decide +kernel
theorem dX5_join_53 : decode cX5_join 53 = .ok (.invokevirtual 115, 3) := by decide +kernel
theorem dX5_join_56 : decode cX5_join 56 = .ok (.ifCond .ne 13, 3) := by decide +kernel
theorem dX5_join_59 : decode cX5_join 59 = .ok (.new 51, 3) := by decide +kernel
theorem dX5_join_62 : decode cX5_join 62 = .ok (.dup, 1) := by decide +kernel
theorem dX5_join_63 : decode cX5_join 63 = .ok (.ldc 118, 2) := by decide +kernel
theorem dX5_join_65 : decode cX5_join 65 = .ok (.invokespecial 55, 3) := by decide +kernel
theorem dX5_join_68 : decode cX5_join 68 = .ok (.athrow, 1) := by decide +kernel
theorem dX5_join_69 : decode cX5_join 69 = .ok (.aload_n 0, 1) := by decide +kernel
theorem dX5_join_70 : decode cX5_join 70 = .ok (.iload_n 1, 1) := by decide +kernel
theorem dX5_join_71 : decode cX5_join 71 = .ok (.aload_n 0, 1) := by decide +kernel
theorem dX5_join_72 : decode cX5_join 72 = .ok (.iload_n 2, 1) := by decide +kernel
theorem dX5_join_73 : decode cX5_join 73 = .ok (.invokevirtual 67, 3) := by decide +kernel
theorem dX5_join_76 : decode cX5_join 76 = .ok (.aload_n 0, 1) := by decide +kernel
theorem dX5_join_77 : decode cX5_join 77 = .ok (.iload_n 3, 1) := by decide +kernel
theorem dX5_join_78 : decode cX5_join 78 = .ok (.invokevirtual 67, 3) := by decide +kernel
theorem dX5_join_81 : decode cX5_join 81 = .ok (.invokevirtual 120, 3) := by decide +kernel
theorem dX5_join_84 : decode cX5_join 84 = .ok (.aload_n 0, 1) := by decide +kernel
theorem dX5_join_85 : decode cX5_join 85 = .ok (.invokevirtual 96, 3) := by decide +kernel
theorem dX5_join_88 : decode cX5_join 88 = .ok (.ireturn, 1) := by decide +kernel
