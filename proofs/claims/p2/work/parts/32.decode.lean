theorem dX5_changeThesis_0 : decode cX5_changeThesis 0 = .ok (.aload_n 0, 1) := by decide +kernel
theorem dX5_changeThesis_1 : decode cX5_changeThesis 1 = .ok (.getfield 36, 3) := by decide +kernel
theorem dX5_changeThesis_4 : decode cX5_changeThesis 4 = .ok (.aload 4, 2) := by decide +kernel
theorem dX5_changeThesis_6 : decode cX5_changeThesis 6 = .ok (.invokevirtual 130, 3) := by decide +kernel
theorem dX5_changeThesis_9 : decode cX5_changeThesis 9 = .ok (.iload_n 2, 1) := by decide +kernel
theorem dX5_changeThesis_10 : decode cX5_changeThesis 10 = .ok (.iconst 4, 1) := by decide +kernel
theorem dX5_changeThesis_11 : decode cX5_changeThesis 11 = .ok (.if_icmp .ne 11, 3) := by decide +kernel
theorem dX5_changeThesis_14 : decode cX5_changeThesis 14 = .ok (.aload_n 0, 1) := by decide +kernel
theorem dX5_changeThesis_15 : decode cX5_changeThesis 15 = .ok (.getfield 36, 3) := by decide +kernel
theorem dX5_changeThesis_18 : decode cX5_changeThesis 18 = .ok (.iload_n 3, 1) := by decide +kernel
theorem dX5_changeThesis_19 : decode cX5_changeThesis 19 = .ok (.invokevirtual 134, 3) := by decide +kernel
theorem dX5_changeThesis_22 : decode cX5_changeThesis 22 = .ok (.aload_n 0, 1) := by decide +kernel
theorem dX5_changeThesis_23 : decode cX5_changeThesis 23 = .ok (.getfield 32, 3) := by decide +kernel
theorem dX5_changeThesis_26 : decode cX5_changeThesis 26 = .ok (.aload_n 1, 1) := by decide +kernel
theorem dX5_changeThesis_27 : decode cX5_changeThesis 27 = .ok (.getfield 183, 3) := by decide +kernel
theorem dX5_changeThesis_30 : decode cX5_changeThesis 30 = .ok (.invokevirtual 130, 3) := by decide +kernel
theorem dX5_changeThesis_33 : decode cX5_changeThesis 33 = .ok (.aload_n 0, 1) := by decide +kernel
theorem dX5_changeThesis_34 : decode cX5_changeThesis 34 = .ok (.getfield 32, 3) := by decide +kernel
theorem dX5_changeThesis_37 : decode cX5_changeThesis 37 = .ok (.iload_n 2, 1) := by decide +kernel
theorem dX5_changeThesis_38 : decode cX5_changeThesis 38 = .ok (.iload_n 3, 1) := by decide +kernel
theorem dX5_changeThesis_39 : decode cX5_changeThesis 39 = .ok (.aload_n 0, 1) := by decide +kernel
theorem dX5_changeThesis_40 : decode cX5_changeThesis 40 = .ok (.getfield 36, 3) := by decide +kernel
theorem dX5_changeThesis_43 : decode cX5_changeThesis 43 = .ok (.invokevirtual 331, 3) := by decide +kernel
theorem dX5_changeThesis_46 : decode cX5_changeThesis 46 = .ok (.istore 5, 2) := by decide +kernel
theorem dX5_changeThesis_48 : decode cX5_changeThesis 48 = .ok (.iconst 0, 1) := by decide +kernel
theorem dX5_changeThesis_49 : decode cX5_changeThesis 49 = .ok (.istore 6, 2) := by decide +kernel
theorem dX5_changeThesis_51 : decode cX5_changeThesis 51 = .ok (.iload 5, 2) := by decide +kernel
theorem dX5_changeThesis_53 : decode cX5_changeThesis 53 = .ok (.ifCond .ne 38, 3) := by decide +kernel
theorem dX5_changeThesis_56 : decode cX5_changeThesis 56 = .ok (.iload 6, 2) := by decide +kernel
theorem dX5_changeThesis_58 : decode cX5_changeThesis 58 = .ok (.bipush 20, 2) := by decide +kernel
theorem dX5_changeThesis_60 : decode cX5_changeThesis 60 = .ok (.if_icmp .ge 31, 3) := by decide +kernel
theorem dX5_changeThesis_63 : decode cX5_changeThesis 63 = .ok (.aload_n 0, 1) := by decide +kernel
theorem dX5_changeThesis_64 : decode cX5_changeThesis 64 = .ok (.invokevirtual 335, 3) := by decide +kernel
theorem dX5_changeThesis_67 : decode cX5_changeThesis 67 = .ok (.ifCond .eq 24, 3) := by decide +kernel
theorem dX5_changeThesis_70 : decode cX5_changeThesis 70 = .ok (.aload_n 0, 1) := by decide +kernel
theorem dX5_changeThesis_71 : decode cX5_changeThesis 71 = .ok (.getfield 32, 3) := by decide +kernel
theorem dX5_changeThesis_74 : decode cX5_changeThesis 74 = .ok (.iload_n 2, 1) := by decide +kernel
theorem dX5_changeThesis_75 : decode cX5_changeThesis 75 = .ok (.iload_n 3, 1) := by decide +kernel
theorem dX5_changeThesis_76 : decode cX5_changeThesis 76 = .ok (.aload_n 0, 1) := by decide +kernel
theorem dX5_changeThesis_77 : decode cX5_changeThesis 77 = .ok (.getfield 36, 3) := by decide +kernel
theorem dX5_changeThesis_80 : decode cX5_changeThesis 80 = .ok (.invokevirtual 331, 3) := by decide +kernel
theorem dX5_changeThesis_83 : decode cX5_changeThesis 83 = .ok (.istore 5, 2) := by decide +kernel
theorem dX5_changeThesis_85 : decode cX5_changeThesis 85 = .ok (.iinc 6 1, 3) := by decide +kernel
theorem dX5_changeThesis_88 : decode cX5_changeThesis 88 = .ok (.goto (-37), 3) := by decide +kernel
theorem dX5_changeThesis_91 : decode cX5_changeThesis 91 = .ok (.iload 5, 2) := by decide +kernel
theorem dX5_changeThesis_93 : decode cX5_changeThesis 93 = .ok (.ifCond .eq 13, 3) := by decide +kernel
theorem dX5_changeThesis_96 : decode cX5_changeThesis 96 = .ok (.aload_n 0, 1) := by decide +kernel
theorem dX5_changeThesis_97 : decode cX5_changeThesis 97 = .ok (.getfield 32, 3) := by decide +kernel
theorem dX5_changeThesis_100 : decode cX5_changeThesis 100 = .ok (.invokevirtual 292, 3) := by decide +kernel
theorem dX5_changeThesis_103 : decode cX5_changeThesis 103 = .ok (.ifCond .eq 5, 3) := by decide +kernel
theorem dX5_changeThesis_106 : decode cX5_changeThesis 106 = .ok (.iconst 0, 1) := by decide +kernel
theorem dX5_changeThesis_107 : decode cX5_changeThesis 107 = .ok (.ireturn, 1) := by decide +kernel
theorem dX5_changeThesis_108 : decode cX5_changeThesis 108 = .ok (.aload_n 1, 1) := by decide +kernel
theorem dX5_changeThesis_109 : decode cX5_changeThesis 109 = .ok (.aload_n 0, 1) := by decide +kernel
theorem dX5_changeThesis_110 : decode cX5_changeThesis 110 = .ok (.getfield 32, 3) := by decide +kernel
theorem dX5_changeThesis_113 : decode cX5_changeThesis 113 = .ok (.invokevirtual 39, 3) := by decide +kernel
theorem dX5_changeThesis_116 : decode cX5_changeThesis 116 = .ok (.putfield 183, 3) := by decide +kernel
theorem dX5_changeThesis_119 : decode cX5_changeThesis 119 = .ok (.iconst 1, 1) := by decide +kernel
theorem dX5_changeThesis_120 : decode cX5_changeThesis 120 = .ok (.ireturn, 1) := by decide +kernel
