theorem dX5_keepWork_0 : decode cX5_keepWork 0 = .ok (.aload_n 0, 1) := by decide +kernel
theorem dX5_keepWork_1 : decode cX5_keepWork 1 = .ok (.getfield 254, 3) := by decide +kernel
theorem dX5_keepWork_4 : decode cX5_keepWork 4 = .ok (.sipush 1000, 3) := by decide +kernel
theorem dX5_keepWork_7 : decode cX5_keepWork 7 = .ok (.if_icmp .lt 14, 3) := by decide +kernel
theorem dX5_keepWork_10 : decode cX5_keepWork 10 = .ok (.new 62, 3) := by decide +kernel
theorem dX5_keepWork_13 : decode cX5_keepWork 13 = .ok (.dup, 1) := by decide +kernel
theorem dX5_keepWork_14 : decode cX5_keepWork 14 = .ok (.ldc_w 290, 3) := by decide +kernel
theorem dX5_keepWork_17 : decode cX5_keepWork 17 = .ok (.invokespecial 66, 3) := by decide +kernel
theorem dX5_keepWork_20 : decode cX5_keepWork 20 = .ok (.athrow, 1) := by decide +kernel
theorem dX5_keepWork_21 : decode cX5_keepWork 21 = .ok (.aload_n 0, 1) := by decide +kernel
theorem dX5_keepWork_22 : decode cX5_keepWork 22 = .ok (.getfield 32, 3) := by decide +kernel
theorem dX5_keepWork_25 : decode cX5_keepWork 25 = .ok (.invokevirtual 292, 3) := by decide +kernel
theorem dX5_keepWork_28 : decode cX5_keepWork 28 = .ok (.ifCond .eq 14, 3) := by decide +kernel
theorem dX5_keepWork_31 : decode cX5_keepWork 31 = .ok (.new 62, 3) := by decide +kernel
theorem dX5_keepWork_34 : decode cX5_keepWork 34 = .ok (.dup, 1) := by decide +kernel
theorem dX5_keepWork_35 : decode cX5_keepWork 35 = .ok (.ldc_w 295, 3) := by decide +kernel
theorem dX5_keepWork_38 : decode cX5_keepWork 38 = .ok (.invokespecial 66, 3) := by decide +kernel
theorem dX5_keepWork_41 : decode cX5_keepWork 41 = .ok (.athrow, 1) := by decide +kernel
theorem dX5_keepWork_42 : decode cX5_keepWork 42 = .ok (.aload_n 0, 1) := by decide +kernel
theorem dX5_keepWork_43 : decode cX5_keepWork 43 = .ok (.getfield 11, 3) := by decide +kernel
theorem dX5_keepWork_46 : decode cX5_keepWork 46 = .ok (.aload_n 0, 1) := by decide +kernel
theorem dX5_keepWork_47 : decode cX5_keepWork 47 = .ok (.getfield 254, 3) := by decide +kernel
theorem dX5_keepWork_50 : decode cX5_keepWork 50 = .ok (.aload_n 0, 1) := by decide +kernel
theorem dX5_keepWork_51 : decode cX5_keepWork 51 = .ok (.getfield 32, 3) := by decide +kernel
theorem dX5_keepWork_54 : decode cX5_keepWork 54 = .ok (.invokevirtual 39, 3) := by decide +kernel
theorem dX5_keepWork_57 : decode cX5_keepWork 57 = .ok (.aastore, 1) := by decide +kernel
theorem dX5_keepWork_58 : decode cX5_keepWork 58 = .ok (.aload_n 0, 1) := by decide +kernel
theorem dX5_keepWork_59 : decode cX5_keepWork 59 = .ok (.dup, 1) := by decide +kernel
theorem dX5_keepWork_60 : decode cX5_keepWork 60 = .ok (.getfield 254, 3) := by decide +kernel
theorem dX5_keepWork_63 : decode cX5_keepWork 63 = .ok (.iconst 1, 1) := by decide +kernel
theorem dX5_keepWork_64 : decode cX5_keepWork 64 = .ok (.iadd, 1) := by decide +kernel
theorem dX5_keepWork_65 : decode cX5_keepWork 65 = .ok (.putfield 254, 3) := by decide +kernel
theorem dX5_keepWork_68 : decode cX5_keepWork 68 = .ok (.aload_n 0, 1) := by decide +kernel
theorem dX5_keepWork_69 : decode cX5_keepWork 69 = .ok (.getfield 254, 3) := by decide +kernel
theorem dX5_keepWork_72 : decode cX5_keepWork 72 = .ok (.iconst 1, 1) := by decide +kernel
theorem dX5_keepWork_73 : decode cX5_keepWork 73 = .ok (.isub, 1) := by decide +kernel
theorem dX5_keepWork_74 : decode cX5_keepWork 74 = .ok (.ireturn, 1) := by decide +kernel
