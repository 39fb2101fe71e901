theorem dX4_stopOf_0 : decode cX4_stopOf 0 = .ok (.iload_n 1, 1) := by decide +kernel
theorem dX4_stopOf_1 : decode cX4_stopOf 1 = .ok (.istore_n 2, 1) := by decide +kernel
theorem dX4_stopOf_2 : decode cX4_stopOf 2 = .ok (.iconst 1, 1) := by decide +kernel
theorem dX4_stopOf_3 : decode cX4_stopOf 3 = .ok (.istore_n 3, 1) := by decide +kernel
theorem dX4_stopOf_4 : decode cX4_stopOf 4 = .ok (.iload_n 3, 1) := by decide +kernel
theorem dX4_stopOf_5 : decode cX4_stopOf 5 = .ok (.ifCond .le 30, 3) := by decide +kernel
theorem dX4_stopOf_8 : decode cX4_stopOf 8 = .ok (.iload_n 2, 1) := by decide +kernel
theorem dX4_stopOf_9 : decode cX4_stopOf 9 = .ok (.aload_n 0, 1) := by decide +kernel
theorem dX4_stopOf_10 : decode cX4_stopOf 10 = .ok (.getfield 15, 3) := by decide +kernel
theorem dX4_stopOf_13 : decode cX4_stopOf 13 = .ok (.if_icmp .ge 22, 3) := by decide +kernel
theorem dX4_stopOf_16 : decode cX4_stopOf 16 = .ok (.iload_n 3, 1) := by decide +kernel
theorem dX4_stopOf_17 : decode cX4_stopOf 17 = .ok (.aload_n 0, 1) := by decide +kernel
theorem dX4_stopOf_18 : decode cX4_stopOf 18 = .ok (.iload_n 2, 1) := by decide +kernel
theorem dX4_stopOf_19 : decode cX4_stopOf 19 = .ok (.invokevirtual 112, 3) := by decide +kernel
theorem dX4_stopOf_22 : decode cX4_stopOf 22 = .ok (.invokestatic 115, 3) := by decide +kernel
theorem dX4_stopOf_25 : decode cX4_stopOf 25 = .ok (.iconst 1, 1) := by decide +kernel
theorem dX4_stopOf_26 : decode cX4_stopOf 26 = .ok (.isub, 1) := by decide +kernel
theorem dX4_stopOf_27 : decode cX4_stopOf 27 = .ok (.iadd, 1) := by decide +kernel
theorem dX4_stopOf_28 : decode cX4_stopOf 28 = .ok (.istore_n 3, 1) := by decide +kernel
theorem dX4_stopOf_29 : decode cX4_stopOf 29 = .ok (.iinc 2 1, 3) := by decide +kernel
theorem dX4_stopOf_32 : decode cX4_stopOf 32 = .ok (.goto (-28), 3) := by decide +kernel
theorem dX4_stopOf_35 : decode cX4_stopOf 35 = .ok (.iload_n 2, 1) := by decide +kernel
theorem dX4_stopOf_36 : decode cX4_stopOf 36 = .ok (.ireturn, 1) := by decide +kernel
theorem dX4_leavePart_0 : decode cX4_leavePart 0 = .ok (.aload_n 0, 1) := by decide +kernel
theorem dX4_leavePart_1 : decode cX4_leavePart 1 = .ok (.iconst 2, 1) := by decide +kernel
theorem dX4_leavePart_2 : decode cX4_leavePart 2 = .ok (.iconst (-1), 1) := by decide +kernel
theorem dX4_leavePart_3 : decode cX4_leavePart 3 = .ok (.invokestatic 87, 3) := by decide +kernel
theorem dX4_leavePart_6 : decode cX4_leavePart 6 = .ok (.invokevirtual 100, 3) := by decide +kernel
theorem dX4_leavePart_9 : decode cX4_leavePart 9 = .ok (.ifCond .eq 4, 3) := by decide +kernel
theorem dX4_leavePart_12 : decode cX4_leavePart 12 = .ok (.return_, 1) := by decide +kernel
theorem dX4_leavePart_13 : decode cX4_leavePart 13 = .ok (.iconst 1, 1) := by decide +kernel
theorem dX4_leavePart_14 : decode cX4_leavePart 14 = .ok (.istore_n 2, 1) := by decide +kernel
theorem dX4_leavePart_15 : decode cX4_leavePart 15 = .ok (.iconst 0, 1) := by decide +kernel
theorem dX4_leavePart_16 : decode cX4_leavePart 16 = .ok (.istore_n 3, 1) := by decide +kernel
theorem dX4_leavePart_17 : decode cX4_leavePart 17 = .ok (.iload_n 3, 1) := by decide +kernel
theorem dX4_leavePart_18 : decode cX4_leavePart 18 = .ok (.iload_n 1, 1) := by decide +kernel
theorem dX4_leavePart_19 : decode cX4_leavePart 19 = .ok (.if_icmp .ge 15, 3) := by decide +kernel
theorem dX4_leavePart_22 : decode cX4_leavePart 22 = .ok (.aload_n 0, 1) := by decide +kernel
theorem dX4_leavePart_23 : decode cX4_leavePart 23 = .ok (.iload_n 2, 1) := by decide +kernel
theorem dX4_leavePart_24 : decode cX4_leavePart 24 = .ok (.invokevirtual 104, 3) := by decide +kernel
theorem dX4_leavePart_27 : decode cX4_leavePart 27 = .ok (.istore_n 2, 1) := by decide +kernel
theorem dX4_leavePart_28 : decode cX4_leavePart 28 = .ok (.iinc 3 1, 3) := by decide +kernel
theorem dX4_leavePart_31 : decode cX4_leavePart 31 = .ok (.goto (-14), 3) := by decide +kernel
theorem dX4_leavePart_34 : decode cX4_leavePart 34 = .ok (.aload_n 0, 1) := by decide +kernel
theorem dX4_leavePart_35 : decode cX4_leavePart 35 = .ok (.iload_n 2, 1) := by decide +kernel
theorem dX4_leavePart_36 : decode cX4_leavePart 36 = .ok (.invokevirtual 104, 3) := by decide +kernel
theorem dX4_leavePart_39 : decode cX4_leavePart 39 = .ok (.istore_n 3, 1) := by decide +kernel
theorem dX4_leavePart_40 : decode cX4_leavePart 40 = .ok (.aload_n 0, 1) := by decide +kernel
theorem dX4_leavePart_41 : decode cX4_leavePart 41 = .ok (.iload_n 2, 1) := by decide +kernel
theorem dX4_leavePart_42 : decode cX4_leavePart 42 = .ok (.invokevirtual 59, 3) := by decide +kernel
theorem dX4_leavePart_45 : decode cX4_leavePart 45 = .ok (.aload_n 0, 1) := by decide +kernel
theorem dX4_leavePart_46 : decode cX4_leavePart 46 = .ok (.iconst 1, 1) := by decide +kernel
theorem dX4_leavePart_47 : decode cX4_leavePart 47 = .ok (.iload_n 3, 1) := by decide +kernel
theorem dX4_leavePart_48 : decode cX4_leavePart 48 = .ok (.iload_n 2, 1) := by decide +kernel
theorem dX4_leavePart_49 : decode cX4_leavePart 49 = .ok (.isub, 1) := by decide +kernel
theorem dX4_leavePart_50 : decode cX4_leavePart 50 = .ok (.invokestatic 107, 3) := by decide +kernel
theorem dX4_leavePart_53 : decode cX4_leavePart 53 = .ok (.putfield 15, 3) := by decide +kernel
theorem dX4_leavePart_56 : decode cX4_leavePart 56 = .ok (.return_, 1) := by decide +kernel
