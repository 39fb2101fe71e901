theorem dX6_let_0 : decode cX6_let 0 = .ok (.aload_n 0, 1) := by decide +kernel
theorem dX6_let_1 : decode cX6_let 1 = .ok (.iconst 0, 1) := by decide +kernel
theorem dX6_let_2 : decode cX6_let 2 = .ok (.putfield 93, 3) := by decide +kernel
theorem dX6_let_5 : decode cX6_let 5 = .ok (.aload_n 0, 1) := by decide +kernel
theorem dX6_let_6 : decode cX6_let 6 = .ok (.invokevirtual 239, 3) := by decide +kernel
theorem dX6_let_9 : decode cX6_let 9 = .ok (.ifCond .eq 13, 3) := by decide +kernel
theorem dX6_let_12 : decode cX6_let 12 = .ok (.aload_n 0, 1) := by decide +kernel
theorem dX6_let_13 : decode cX6_let 13 = .ok (.getfield 205, 3) := by decide +kernel
theorem dX6_let_16 : decode cX6_let 16 = .ok (.sipush 1000, 3) := by decide +kernel
theorem dX6_let_19 : decode cX6_let 19 = .ok (.if_icmp .ne 9, 3) := by decide +kernel
theorem dX6_let_22 : decode cX6_let 22 = .ok (.aload_n 0, 1) := by decide +kernel
theorem dX6_let_23 : decode cX6_let 23 = .ok (.iconst 1, 1) := by decide +kernel
theorem dX6_let_24 : decode cX6_let 24 = .ok (.invokevirtual 208, 3) := by decide +kernel
theorem dX6_let_27 : decode cX6_let 27 = .ok (.ireturn, 1) := by decide +kernel
theorem dX6_let_28 : decode cX6_let 28 = .ok (.aload_n 0, 1) := by decide +kernel
theorem dX6_let_29 : decode cX6_let 29 = .ok (.iconst 0, 1) := by decide +kernel
theorem dX6_let_30 : decode cX6_let 30 = .ok (.aload_n 0, 1) := by decide +kernel
theorem dX6_let_31 : decode cX6_let 31 = .ok (.dup, 1) := by decide +kernel
theorem dX6_let_32 : decode cX6_let 32 = .ok (.getfield 224, 3) := by decide +kernel
theorem dX6_let_35 : decode cX6_let 35 = .ok (.dup_x1, 1) := by decide +kernel
theorem dX6_let_36 : decode cX6_let 36 = .ok (.iconst 1, 1) := by decide +kernel
theorem dX6_let_37 : decode cX6_let 37 = .ok (.iadd, 1) := by decide +kernel
theorem dX6_let_38 : decode cX6_let 38 = .ok (.putfield 224, 3) := by decide +kernel
theorem dX6_let_41 : decode cX6_let 41 = .ok (.invokevirtual 141, 3) := by decide +kernel
theorem dX6_let_44 : decode cX6_let 44 = .ok (.istore_n 1, 1) := by decide +kernel
theorem dX6_let_45 : decode cX6_let 45 = .ok (.aload_n 0, 1) := by decide +kernel
theorem dX6_let_46 : decode cX6_let 46 = .ok (.iconst 0, 1) := by decide +kernel
theorem dX6_let_47 : decode cX6_let 47 = .ok (.iload_n 1, 1) := by decide +kernel
theorem dX6_let_48 : decode cX6_let 48 = .ok (.iload_n 1, 1) := by decide +kernel
theorem dX6_let_49 : decode cX6_let 49 = .ok (.invokevirtual 246, 3) := by decide +kernel
theorem dX6_let_52 : decode cX6_let 52 = .ok (.aload_n 0, 1) := by decide +kernel
theorem dX6_let_53 : decode cX6_let 53 = .ok (.iload_n 1, 1) := by decide +kernel
theorem dX6_let_54 : decode cX6_let 54 = .ok (.iconst 1, 1) := by decide +kernel
theorem dX6_let_55 : decode cX6_let 55 = .ok (.invokevirtual 227, 3) := by decide +kernel
theorem dX6_let_58 : decode cX6_let 58 = .ok (.ireturn, 1) := by decide +kernel
theorem dX6_suppose_0 : decode cX6_suppose 0 = .ok (.aload_n 0, 1) := by decide +kernel
theorem dX6_suppose_1 : decode cX6_suppose 1 = .ok (.iconst 0, 1) := by decide +kernel
theorem dX6_suppose_2 : decode cX6_suppose 2 = .ok (.putfield 93, 3) := by decide +kernel
theorem dX6_suppose_5 : decode cX6_suppose 5 = .ok (.aload_n 0, 1) := by decide +kernel
theorem dX6_suppose_6 : decode cX6_suppose 6 = .ok (.iload_n 1, 1) := by decide +kernel
theorem dX6_suppose_7 : decode cX6_suppose 7 = .ok (.invokevirtual 236, 3) := by decide +kernel
theorem dX6_suppose_10 : decode cX6_suppose 10 = .ok (.istore_n 2, 1) := by decide +kernel
theorem dX6_suppose_11 : decode cX6_suppose 11 = .ok (.iload_n 2, 1) := by decide +kernel
theorem dX6_suppose_12 : decode cX6_suppose 12 = .ok (.ifCond .ne 9, 3) := by decide +kernel
theorem dX6_suppose_15 : decode cX6_suppose 15 = .ok (.aload_n 0, 1) := by decide +kernel
theorem dX6_suppose_16 : decode cX6_suppose 16 = .ok (.iconst 1, 1) := by decide +kernel
theorem dX6_suppose_17 : decode cX6_suppose 17 = .ok (.invokevirtual 208, 3) := by decide +kernel
theorem dX6_suppose_20 : decode cX6_suppose 20 = .ok (.ireturn, 1) := by decide +kernel
theorem dX6_suppose_21 : decode cX6_suppose 21 = .ok (.aload_n 0, 1) := by decide +kernel
theorem dX6_suppose_22 : decode cX6_suppose 22 = .ok (.getfield 187, 3) := by decide +kernel
theorem dX6_suppose_25 : decode cX6_suppose 25 = .ok (.ifCond .eq 26, 3) := by decide +kernel
theorem dX6_suppose_28 : decode cX6_suppose 28 = .ok (.aload_n 0, 1) := by decide +kernel
theorem dX6_suppose_29 : decode cX6_suppose 29 = .ok (.getfield 67, 3) := by decide +kernel
theorem dX6_suppose_32 : decode cX6_suppose 32 = .ok (.aload_n 0, 1) := by decide +kernel
theorem dX6_suppose_33 : decode cX6_suppose 33 = .ok (.getfield 187, 3) := by decide +kernel
theorem dX6_suppose_36 : decode cX6_suppose 36 = .ok (.iconst 1, 1) := by decide +kernel
theorem dX6_suppose_37 : decode cX6_suppose 37 = .ok (.isub, 1) := by decide +kernel
theorem dX6_suppose_38 : decode cX6_suppose 38 = .ok (.baload, 1) := by decide +kernel
theorem dX6_suppose_39 : decode cX6_suppose 39 = .ok (.ifCond .eq 12, 3) := by decide +kernel
theorem dX6_suppose_42 : decode cX6_suppose 42 = .ok (.aload_n 0, 1) := by decide +kernel
theorem dX6_suppose_43 : decode cX6_suppose 43 = .ok (.getfield 187, 3) := by decide +kernel
theorem dX6_suppose_46 : decode cX6_suppose 46 = .ok (.bipush 40, 2) := by decide +kernel
theorem dX6_suppose_48 : decode cX6_suppose 48 = .ok (.if_icmp .ne 9, 3) := by decide +kernel
theorem dX6_suppose_51 : decode cX6_suppose 51 = .ok (.aload_n 0, 1) := by decide +kernel
theorem dX6_suppose_52 : decode cX6_suppose 52 = .ok (.iconst 2, 1) := by decide +kernel
theorem dX6_suppose_53 : decode cX6_suppose 53 = .ok (.invokevirtual 208, 3) := by decide +kernel
theorem dX6_suppose_56 : decode cX6_suppose 56 = .ok (.ireturn, 1) := by decide +kernel
theorem dX6_suppose_57 : decode cX6_suppose 57 = .ok (.aload_n 0, 1) := by decide +kernel
theorem dX6_suppose_58 : decode cX6_suppose 58 = .ok (.getfield 187, 3) := by decide +kernel
theorem dX6_suppose_61 : decode cX6_suppose 61 = .ok (.iconst 1, 1) := by decide +kernel
theorem dX6_suppose_62 : decode cX6_suppose 62 = .ok (.isub, 1) := by decide +kernel
theorem dX6_suppose_63 : decode cX6_suppose 63 = .ok (.istore_n 3, 1) := by decide +kernel
theorem dX6_suppose_64 : decode cX6_suppose 64 = .ok (.aload_n 0, 1) := by decide +kernel
theorem dX6_suppose_65 : decode cX6_suppose 65 = .ok (.getfield 58, 3) := by decide +kernel
theorem dX6_suppose_68 : decode cX6_suppose 68 = .ok (.iload_n 3, 1) := by decide +kernel
theorem dX6_suppose_69 : decode cX6_suppose 69 = .ok (.dup2, 1) := by decide +kernel
theorem dX6_suppose_70 : decode cX6_suppose 70 = .ok (.iaload, 1) := by decide +kernel
theorem dX6_suppose_71 : decode cX6_suppose 71 = .ok (.iconst 1, 1) := by decide +kernel
theorem dX6_suppose_72 : decode cX6_suppose 72 = .ok (.iadd, 1) := by decide +kernel
theorem dX6_suppose_73 : decode cX6_suppose 73 = .ok (.iastore, 1) := by decide +kernel
theorem dX6_suppose_74 : decode cX6_suppose 74 = .ok (.aload_n 0, 1) := by decide +kernel
theorem dX6_suppose_75 : decode cX6_suppose 75 = .ok (.aload_n 0, 1) := by decide +kernel
theorem dX6_suppose_76 : decode cX6_suppose 76 = .ok (.getfield 83, 3) := by decide +kernel
theorem dX6_suppose_79 : decode cX6_suppose 79 = .ok (.aload_n 0, 1) := by decide +kernel
theorem dX6_suppose_80 : decode cX6_suppose 80 = .ok (.getfield 253, 3) := by decide +kernel
theorem dX6_suppose_83 : decode cX6_suppose 83 = .ok (.invokestatic 106, 3) := by decide +kernel
theorem dX6_suppose_86 : decode cX6_suppose 86 = .ok (.putfield 83, 3) := by decide +kernel
theorem dX6_suppose_89 : decode cX6_suppose 89 = .ok (.aload_n 0, 1) := by decide +kernel
theorem dX6_suppose_90 : decode cX6_suppose 90 = .ok (.getfield 83, 3) := by decide +kernel
theorem dX6_suppose_93 : decode cX6_suppose 93 = .ok (.aload_n 0, 1) := by decide +kernel
theorem dX6_suppose_94 : decode cX6_suppose 94 = .ok (.dup, 1) := by decide +kernel
theorem dX6_suppose_95 : decode cX6_suppose 95 = .ok (.getfield 253, 3) := by decide +kernel
theorem dX6_suppose_98 : decode cX6_suppose 98 = .ok (.dup_x1, 1) := by decide +kernel
theorem dX6_suppose_99 : decode cX6_suppose 99 = .ok (.iconst 1, 1) := by decide +kernel
theorem dX6_suppose_100 : decode cX6_suppose 100 = .ok (.iadd, 1) := by decide +kernel
theorem dX6_suppose_101 : decode cX6_suppose 101 = .ok (.putfield 253, 3) := by decide +kernel
theorem dX6_suppose_104 : decode cX6_suppose 104 = .ok (.iload_n 2, 1) := by decide +kernel
theorem dX6_suppose_105 : decode cX6_suppose 105 = .ok (.iastore, 1) := by decide +kernel
theorem dX6_suppose_106 : decode cX6_suppose 106 = .ok (.aload_n 0, 1) := by decide +kernel
theorem dX6_suppose_107 : decode cX6_suppose 107 = .ok (.iconst 3, 1) := by decide +kernel
theorem dX6_suppose_108 : decode cX6_suppose 108 = .ok (.aload_n 0, 1) := by decide +kernel
theorem dX6_suppose_109 : decode cX6_suppose 109 = .ok (.getfield 55, 3) := by decide +kernel
theorem dX6_suppose_112 : decode cX6_suppose 112 = .ok (.iload_n 3, 1) := by decide +kernel
theorem dX6_suppose_113 : decode cX6_suppose 113 = .ok (.iaload, 1) := by decide +kernel
theorem dX6_suppose_114 : decode cX6_suppose 114 = .ok (.invokevirtual 243, 3) := by decide +kernel
theorem dX6_suppose_117 : decode cX6_suppose 117 = .ok (.ireturn, 1) := by decide +kernel
