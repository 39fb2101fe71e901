theorem dX6_again_0 : decode cX6_again 0 = .ok (.aload_n 0, 1) := by decide +kernel
theorem dX6_again_1 : decode cX6_again 1 = .ok (.getfield 7, 3) := by decide +kernel
theorem dX6_again_4 : decode cX6_again 4 = .ok (.iload_n 1, 1) := by decide +kernel
theorem dX6_again_5 : decode cX6_again 5 = .ok (.iaload, 1) := by decide +kernel
theorem dX6_again_6 : decode cX6_again 6 = .ok (.bipush 7, 2) := by decide +kernel
theorem dX6_again_8 : decode cX6_again 8 = .ok (.if_icmp .ne 9, 3) := by decide +kernel
theorem dX6_again_11 : decode cX6_again 11 = .ok (.aload_n 0, 1) := by decide +kernel
theorem dX6_again_12 : decode cX6_again 12 = .ok (.iload_n 2, 1) := by decide +kernel
theorem dX6_again_13 : decode cX6_again 13 = .ok (.invokevirtual 150, 3) := by decide +kernel
theorem dX6_again_16 : decode cX6_again 16 = .ok (.ireturn, 1) := by decide +kernel
theorem dX6_again_17 : decode cX6_again 17 = .ok (.aload_n 0, 1) := by decide +kernel
theorem dX6_again_18 : decode cX6_again 18 = .ok (.getfield 7, 3) := by decide +kernel
theorem dX6_again_21 : decode cX6_again 21 = .ok (.iload_n 1, 1) := by decide +kernel
theorem dX6_again_22 : decode cX6_again 22 = .ok (.iaload, 1) := by decide +kernel
theorem dX6_again_23 : decode cX6_again 23 = .ok (.bipush 6, 2) := by decide +kernel
theorem dX6_again_25 : decode cX6_again 25 = .ok (.if_icmp .eq 32, 3) := by decide +kernel
theorem dX6_again_28 : decode cX6_again 28 = .ok (.aload_n 0, 1) := by decide +kernel
theorem dX6_again_29 : decode cX6_again 29 = .ok (.getfield 7, 3) := by decide +kernel
theorem dX6_again_32 : decode cX6_again 32 = .ok (.iload_n 1, 1) := by decide +kernel
theorem dX6_again_33 : decode cX6_again 33 = .ok (.iaload, 1) := by decide +kernel
theorem dX6_again_34 : decode cX6_again 34 = .ok (.bipush 8, 2) := by decide +kernel
theorem dX6_again_36 : decode cX6_again 36 = .ok (.if_icmp .eq 21, 3) := by decide +kernel
theorem dX6_again_39 : decode cX6_again 39 = .ok (.aload_n 0, 1) := by decide +kernel
theorem dX6_again_40 : decode cX6_again 40 = .ok (.aload_n 0, 1) := by decide +kernel
theorem dX6_again_41 : decode cX6_again 41 = .ok (.getfield 7, 3) := by decide +kernel
theorem dX6_again_44 : decode cX6_again 44 = .ok (.iload_n 1, 1) := by decide +kernel
theorem dX6_again_45 : decode cX6_again 45 = .ok (.iaload, 1) := by decide +kernel
theorem dX6_again_46 : decode cX6_again 46 = .ok (.aload_n 0, 1) := by decide +kernel
theorem dX6_again_47 : decode cX6_again 47 = .ok (.getfield 13, 3) := by decide +kernel
theorem dX6_again_50 : decode cX6_again 50 = .ok (.iload_n 1, 1) := by decide +kernel
theorem dX6_again_51 : decode cX6_again 51 = .ok (.iaload, 1) := by decide +kernel
theorem dX6_again_52 : decode cX6_again 52 = .ok (.iload_n 2, 1) := by decide +kernel
theorem dX6_again_53 : decode cX6_again 53 = .ok (.invokevirtual 133, 3) := by decide +kernel
theorem dX6_again_56 : decode cX6_again 56 = .ok (.ireturn, 1) := by decide +kernel
theorem dX6_again_57 : decode cX6_again 57 = .ok (.aload_n 0, 1) := by decide +kernel
theorem dX6_again_58 : decode cX6_again 58 = .ok (.getfield 40, 3) := by decide +kernel
theorem dX6_again_61 : decode cX6_again 61 = .ok (.iload_n 2, 1) := by decide +kernel
theorem dX6_again_62 : decode cX6_again 62 = .ok (.iaload, 1) := by decide +kernel
theorem dX6_again_63 : decode cX6_again 63 = .ok (.istore_n 3, 1) := by decide +kernel
theorem dX6_again_64 : decode cX6_again 64 = .ok (.aload_n 0, 1) := by decide +kernel
theorem dX6_again_65 : decode cX6_again 65 = .ok (.iload_n 2, 1) := by decide +kernel
theorem dX6_again_66 : decode cX6_again 66 = .ok (.putfield 103, 3) := by decide +kernel
theorem dX6_again_69 : decode cX6_again 69 = .ok (.aload_n 0, 1) := by decide +kernel
theorem dX6_again_70 : decode cX6_again 70 = .ok (.getfield 7, 3) := by decide +kernel
theorem dX6_again_73 : decode cX6_again 73 = .ok (.iload_n 1, 1) := by decide +kernel
theorem dX6_again_74 : decode cX6_again 74 = .ok (.iaload, 1) := by decide +kernel
theorem dX6_again_75 : decode cX6_again 75 = .ok (.bipush 6, 2) := by decide +kernel
theorem dX6_again_77 : decode cX6_again 77 = .ok (.if_icmp .ne 11, 3) := by decide +kernel
theorem dX6_again_80 : decode cX6_again 80 = .ok (.aload_n 0, 1) := by decide +kernel
theorem dX6_again_81 : decode cX6_again 81 = .ok (.iload_n 3, 1) := by decide +kernel
theorem dX6_again_82 : decode cX6_again 82 = .ok (.invokevirtual 154, 3) := by decide +kernel
theorem dX6_again_85 : decode cX6_again 85 = .ok (.goto 8, 3) := by decide +kernel
theorem dX6_again_88 : decode cX6_again 88 = .ok (.aload_n 0, 1) := by decide +kernel
theorem dX6_again_89 : decode cX6_again 89 = .ok (.iload_n 3, 1) := by decide +kernel
theorem dX6_again_90 : decode cX6_again 90 = .ok (.invokevirtual 159, 3) := by decide +kernel
theorem dX6_again_93 : decode cX6_again 93 = .ok (.ireturn, 1) := by decide +kernel
