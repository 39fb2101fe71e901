theorem dX5_openBlock_0 : decode cX5_openBlock 0 = .ok (.aload_n 0, 1) := by decide +kernel
theorem dX5_openBlock_1 : decode cX5_openBlock 1 = .ok (.getfield 200, 3) := by decide +kernel
theorem dX5_openBlock_4 : decode cX5_openBlock 4 = .ok (.ifCond .le 26, 3) := by decide +kernel
theorem dX5_openBlock_7 : decode cX5_openBlock 7 = .ok (.aload_n 0, 1) := by decide +kernel
theorem dX5_openBlock_8 : decode cX5_openBlock 8 = .ok (.getfield 200, 3) := by decide +kernel
theorem dX5_openBlock_11 : decode cX5_openBlock 11 = .ok (.bipush 40, 2) := by decide +kernel
theorem dX5_openBlock_13 : decode cX5_openBlock 13 = .ok (.if_icmp .gt 17, 3) := by decide +kernel
theorem dX5_openBlock_16 : decode cX5_openBlock 16 = .ok (.aload_n 0, 1) := by decide +kernel
theorem dX5_openBlock_17 : decode cX5_openBlock 17 = .ok (.getfield 24, 3) := by decide +kernel
theorem dX5_openBlock_20 : decode cX5_openBlock 20 = .ok (.aload_n 0, 1) := by decide +kernel
theorem dX5_openBlock_21 : decode cX5_openBlock 21 = .ok (.getfield 200, 3) := by decide +kernel
theorem dX5_openBlock_24 : decode cX5_openBlock 24 = .ok (.iconst 1, 1) := by decide +kernel
theorem dX5_openBlock_25 : decode cX5_openBlock 25 = .ok (.isub, 1) := by decide +kernel
theorem dX5_openBlock_26 : decode cX5_openBlock 26 = .ok (.aaload, 1) := by decide +kernel
theorem dX5_openBlock_27 : decode cX5_openBlock 27 = .ok (.goto 4, 3) := by decide +kernel
theorem dX5_openBlock_30 : decode cX5_openBlock 30 = .ok (.aconst_null, 1) := by decide +kernel
theorem dX5_openBlock_31 : decode cX5_openBlock 31 = .ok (.areturn, 1) := by decide +kernel
theorem dX0_begin_0 : decode cX0_begin 0 = .ok (.aload_n 0, 1) := by decide +kernel
theorem dX0_begin_1 : decode cX0_begin 1 = .ok (.iload_n 1, 1) := by decide +kernel
theorem dX0_begin_2 : decode cX0_begin 2 = .ok (.putfield 9, 3) := by decide +kernel
theorem dX0_begin_5 : decode cX0_begin 5 = .ok (.aload_n 0, 1) := by decide +kernel
theorem dX0_begin_6 : decode cX0_begin 6 = .ok (.aload_n 2, 1) := by decide +kernel
theorem dX0_begin_7 : decode cX0_begin 7 = .ok (.putfield 15, 3) := by decide +kernel
theorem dX0_begin_10 : decode cX0_begin 10 = .ok (.aload_n 0, 1) := by decide +kernel
theorem dX0_begin_11 : decode cX0_begin 11 = .ok (.iconst 0, 1) := by decide +kernel
theorem dX0_begin_12 : decode cX0_begin 12 = .ok (.putfield 19, 3) := by decide +kernel
theorem dX0_begin_15 : decode cX0_begin 15 = .ok (.aload_n 0, 1) := by decide +kernel
theorem dX0_begin_16 : decode cX0_begin 16 = .ok (.iconst 0, 1) := by decide +kernel
theorem dX0_begin_17 : decode cX0_begin 17 = .ok (.putfield 23, 3) := by decide +kernel
theorem dX0_begin_20 : decode cX0_begin 20 = .ok (.aload_n 0, 1) := by decide +kernel
theorem dX0_begin_21 : decode cX0_begin 21 = .ok (.aconst_null, 1) := by decide +kernel
theorem dX0_begin_22 : decode cX0_begin 22 = .ok (.putfield 26, 3) := by decide +kernel
theorem dX0_begin_25 : decode cX0_begin 25 = .ok (.return_, 1) := by decide +kernel
