theorem dX5_openDefinition_0 : decode cX5_openDefinition 0 = .ok (.aload_n 0, 1) := by decide +kernel
theorem dX5_openDefinition_1 : decode cX5_openDefinition 1 = .ok (.getfield 32, 3) := by decide +kernel
theorem dX5_openDefinition_4 : decode cX5_openDefinition 4 = .ok (.invokevirtual 338, 3) := by decide +kernel
theorem dX5_openDefinition_7 : decode cX5_openDefinition 7 = .ok (.istore_n 1, 1) := by decide +kernel
theorem dX5_openDefinition_8 : decode cX5_openDefinition 8 = .ok (.aload_n 0, 1) := by decide +kernel
theorem dX5_openDefinition_9 : decode cX5_openDefinition 9 = .ok (.iload_n 1, 1) := by decide +kernel
theorem dX5_openDefinition_10 : decode cX5_openDefinition 10 = .ok (.invokevirtual 71, 3) := by decide +kernel
theorem dX5_openDefinition_13 : decode cX5_openDefinition 13 = .ok (.ifCond .eq 12, 3) := by decide +kernel
theorem dX5_openDefinition_16 : decode cX5_openDefinition 16 = .ok (.aload_n 0, 1) := by decide +kernel
theorem dX5_openDefinition_17 : decode cX5_openDefinition 17 = .ok (.getfield 19, 3) := by decide +kernel
theorem dX5_openDefinition_20 : decode cX5_openDefinition 20 = .ok (.iload_n 1, 1) := by decide +kernel
theorem dX5_openDefinition_21 : decode cX5_openDefinition 21 = .ok (.aaload, 1) := by decide +kernel
theorem dX5_openDefinition_22 : decode cX5_openDefinition 22 = .ok (.ifnonnull 5, 3) := by decide +kernel
theorem dX5_openDefinition_25 : decode cX5_openDefinition 25 = .ok (.iconst 0, 1) := by decide +kernel
theorem dX5_openDefinition_26 : decode cX5_openDefinition 26 = .ok (.ireturn, 1) := by decide +kernel
theorem dX5_openDefinition_27 : decode cX5_openDefinition 27 = .ok (.aload_n 0, 1) := by decide +kernel
theorem dX5_openDefinition_28 : decode cX5_openDefinition 28 = .ok (.getfield 32, 3) := by decide +kernel
theorem dX5_openDefinition_31 : decode cX5_openDefinition 31 = .ok (.aload_n 0, 1) := by decide +kernel
theorem dX5_openDefinition_32 : decode cX5_openDefinition 32 = .ok (.getfield 19, 3) := by decide +kernel
theorem dX5_openDefinition_35 : decode cX5_openDefinition 35 = .ok (.iload_n 1, 1) := by decide +kernel
theorem dX5_openDefinition_36 : decode cX5_openDefinition 36 = .ok (.aaload, 1) := by decide +kernel
theorem dX5_openDefinition_37 : decode cX5_openDefinition 37 = .ok (.invokevirtual 341, 3) := by decide +kernel
theorem dX5_openDefinition_40 : decode cX5_openDefinition 40 = .ok (.iconst 1, 1) := by decide +kernel
theorem dX5_openDefinition_41 : decode cX5_openDefinition 41 = .ok (.ireturn, 1) := by decide +kernel
