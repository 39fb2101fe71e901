theorem dX0_isShown_0 : decode cX0_isShown 0 = .ok (.aload_n 0, 1) := by decide +kernel
theorem dX0_isShown_1 : decode cX0_isShown 1 = .ok (.getfield 19, 3) := by decide +kernel
theorem dX0_isShown_4 : decode cX0_isShown 4 = .ok (.ifCond .eq 23, 3) := by decide +kernel
theorem dX0_isShown_7 : decode cX0_isShown 7 = .ok (.aload_n 0, 1) := by decide +kernel
theorem dX0_isShown_8 : decode cX0_isShown 8 = .ok (.getfield 26, 3) := by decide +kernel
theorem dX0_isShown_11 : decode cX0_isShown 11 = .ok (.ifnull 14, 3) := by decide +kernel
theorem dX0_isShown_14 : decode cX0_isShown 14 = .ok (.aload_n 0, 1) := by decide +kernel
theorem dX0_isShown_15 : decode cX0_isShown 15 = .ok (.getfield 23, 3) := by decide +kernel
theorem dX0_isShown_18 : decode cX0_isShown 18 = .ok (.ifCond .ne 7, 3) := by decide +kernel
theorem dX0_isShown_21 : decode cX0_isShown 21 = .ok (.iconst 1, 1) := by decide +kernel
theorem dX0_isShown_22 : decode cX0_isShown 22 = .ok (.goto 4, 3) := by decide +kernel
theorem dX0_isShown_25 : decode cX0_isShown 25 = .ok (.iconst 0, 1) := by decide +kernel
theorem dX0_isShown_26 : decode cX0_isShown 26 = .ok (.ireturn, 1) := by decide +kernel
theorem dX0_isShown_27 : decode cX0_isShown 27 = .ok (.aload_n 0, 1) := by decide +kernel
theorem dX0_isShown_28 : decode cX0_isShown 28 = .ok (.getfield 15, 3) := by decide +kernel
theorem dX0_isShown_31 : decode cX0_isShown 31 = .ok (.ifnull 18, 3) := by decide +kernel
theorem dX0_isShown_34 : decode cX0_isShown 34 = .ok (.aload_n 0, 1) := by decide +kernel
theorem dX0_isShown_35 : decode cX0_isShown 35 = .ok (.getfield 15, 3) := by decide +kernel
theorem dX0_isShown_38 : decode cX0_isShown 38 = .ok (.invokevirtual 30, 3) := by decide +kernel
theorem dX0_isShown_41 : decode cX0_isShown 41 = .ok (.iconst 3, 1) := by decide +kernel
theorem dX0_isShown_42 : decode cX0_isShown 42 = .ok (.if_icmp .ne 7, 3) := by decide +kernel
theorem dX0_isShown_45 : decode cX0_isShown 45 = .ok (.iconst 1, 1) := by decide +kernel
theorem dX0_isShown_46 : decode cX0_isShown 46 = .ok (.goto 4, 3) := by decide +kernel
theorem dX0_isShown_49 : decode cX0_isShown 49 = .ok (.iconst 0, 1) := by decide +kernel
theorem dX0_isShown_50 : decode cX0_isShown 50 = .ok (.ireturn, 1) := by decide +kernel
theorem dX3_init_0 : decode cX3_init 0 = .ok (.aload_n 0, 1) := by decide +kernel
theorem dX3_init_1 : decode cX3_init 1 = .ok (.invokespecial 1, 3) := by decide +kernel
theorem dX3_init_4 : decode cX3_init 4 = .ok (.aload_n 0, 1) := by decide +kernel
theorem dX3_init_5 : decode cX3_init 5 = .ok (.iload_n 1, 1) := by decide +kernel
theorem dX3_init_6 : decode cX3_init 6 = .ok (.putfield 7, 3) := by decide +kernel
theorem dX3_init_9 : decode cX3_init 9 = .ok (.aload_n 0, 1) := by decide +kernel
theorem dX3_init_10 : decode cX3_init 10 = .ok (.iload_n 2, 1) := by decide +kernel
theorem dX3_init_11 : decode cX3_init 11 = .ok (.putfield 13, 3) := by decide +kernel
theorem dX3_init_14 : decode cX3_init 14 = .ok (.aload_n 0, 1) := by decide +kernel
theorem dX3_init_15 : decode cX3_init 15 = .ok (.aload_n 3, 1) := by decide +kernel
theorem dX3_init_16 : decode cX3_init 16 = .ok (.putfield 16, 3) := by decide +kernel
theorem dX3_init_19 : decode cX3_init 19 = .ok (.aload_n 0, 1) := by decide +kernel
theorem dX3_init_20 : decode cX3_init 20 = .ok (.aload 4, 2) := by decide +kernel
theorem dX3_init_22 : decode cX3_init 22 = .ok (.putfield 20, 3) := by decide +kernel
theorem dX3_init_25 : decode cX3_init 25 = .ok (.return_, 1) := by decide +kernel
theorem dX5_refuseWhenFull_0 : decode cX5_refuseWhenFull 0 = .ok (.aload_n 0, 1) := by decide +kernel
theorem dX5_refuseWhenFull_1 : decode cX5_refuseWhenFull 1 = .ok (.getfield 307, 3) := by decide +kernel
theorem dX5_refuseWhenFull_4 : decode cX5_refuseWhenFull 4 = .ok (.sipush 1000, 3) := by decide +kernel
theorem dX5_refuseWhenFull_7 : decode cX5_refuseWhenFull 7 = .ok (.if_icmp .lt 14, 3) := by decide +kernel
theorem dX5_refuseWhenFull_10 : decode cX5_refuseWhenFull 10 = .ok (.new 62, 3) := by decide +kernel
theorem dX5_refuseWhenFull_13 : decode cX5_refuseWhenFull 13 = .ok (.dup, 1) := by decide +kernel
theorem dX5_refuseWhenFull_14 : decode cX5_refuseWhenFull 14 = .ok (.ldc_w 310, 3) := by decide +kernel
theorem dX5_refuseWhenFull_17 : decode cX5_refuseWhenFull 17 = .ok (.invokespecial 66, 3) := by decide +kernel
theorem dX5_refuseWhenFull_20 : decode cX5_refuseWhenFull 20 = .ok (.athrow, 1) := by decide +kernel
theorem dX5_refuseWhenFull_21 : decode cX5_refuseWhenFull 21 = .ok (.return_, 1) := by decide +kernel
