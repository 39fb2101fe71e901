theorem dX6_forget_0 : decode cX6_forget 0 = .ok (.aload_n 0, 1) := by decide +kernel
theorem dX6_forget_1 : decode cX6_forget 1 = .ok (.getfield 113, 3) := by decide +kernel
theorem dX6_forget_4 : decode cX6_forget 4 = .ok (.iload_n 1, 1) := by decide +kernel
theorem dX6_forget_5 : decode cX6_forget 5 = .ok (.if_icmp .le 39, 3) := by decide +kernel
theorem dX6_forget_8 : decode cX6_forget 8 = .ok (.aload_n 0, 1) := by decide +kernel
theorem dX6_forget_9 : decode cX6_forget 9 = .ok (.getfield 34, 3) := by decide +kernel
theorem dX6_forget_12 : decode cX6_forget 12 = .ok (.aload_n 0, 1) := by decide +kernel
theorem dX6_forget_13 : decode cX6_forget 13 = .ok (.getfield 31, 3) := by decide +kernel
theorem dX6_forget_16 : decode cX6_forget 16 = .ok (.aload_n 0, 1) := by decide +kernel
theorem dX6_forget_17 : decode cX6_forget 17 = .ok (.getfield 113, 3) := by decide +kernel
theorem dX6_forget_20 : decode cX6_forget 20 = .ok (.iaload, 1) := by decide +kernel
theorem dX6_forget_21 : decode cX6_forget 21 = .ok (.aload_n 0, 1) := by decide +kernel
theorem dX6_forget_22 : decode cX6_forget 22 = .ok (.getfield 28, 3) := by decide +kernel
theorem dX6_forget_25 : decode cX6_forget 25 = .ok (.aload_n 0, 1) := by decide +kernel
theorem dX6_forget_26 : decode cX6_forget 26 = .ok (.getfield 113, 3) := by decide +kernel
theorem dX6_forget_29 : decode cX6_forget 29 = .ok (.iaload, 1) := by decide +kernel
theorem dX6_forget_30 : decode cX6_forget 30 = .ok (.iastore, 1) := by decide +kernel
theorem dX6_forget_31 : decode cX6_forget 31 = .ok (.aload_n 0, 1) := by decide +kernel
theorem dX6_forget_32 : decode cX6_forget 32 = .ok (.dup, 1) := by decide +kernel
theorem dX6_forget_33 : decode cX6_forget 33 = .ok (.getfield 113, 3) := by decide +kernel
theorem dX6_forget_36 : decode cX6_forget 36 = .ok (.iconst 1, 1) := by decide +kernel
theorem dX6_forget_37 : decode cX6_forget 37 = .ok (.isub, 1) := by decide +kernel
theorem dX6_forget_38 : decode cX6_forget 38 = .ok (.putfield 113, 3) := by decide +kernel
theorem dX6_forget_41 : decode cX6_forget 41 = .ok (.goto (-41), 3) := by decide +kernel
theorem dX6_forget_44 : decode cX6_forget 44 = .ok (.aload_n 0, 1) := by decide +kernel
theorem dX6_forget_45 : decode cX6_forget 45 = .ok (.iload_n 2, 1) := by decide +kernel
theorem dX6_forget_46 : decode cX6_forget 46 = .ok (.putfield 116, 3) := by decide +kernel
theorem dX6_forget_49 : decode cX6_forget 49 = .ok (.return_, 1) := by decide +kernel
theorem dX6_and__0 : decode cX6_and_ 0 = .ok (.aload_n 0, 1) := by decide +kernel
theorem dX6_and__1 : decode cX6_and_ 1 = .ok (.getfield 103, 3) := by decide +kernel
theorem dX6_and__4 : decode cX6_and_ 4 = .ok (.istore_n 3, 1) := by decide +kernel
theorem dX6_and__5 : decode cX6_and_ 5 = .ok (.aload_n 0, 1) := by decide +kernel
theorem dX6_and__6 : decode cX6_and_ 6 = .ok (.iload_n 1, 1) := by decide +kernel
theorem dX6_and__7 : decode cX6_and_ 7 = .ok (.invokevirtual 130, 3) := by decide +kernel
theorem dX6_and__10 : decode cX6_and_ 10 = .ok (.aload_n 0, 1) := by decide +kernel
theorem dX6_and__11 : decode cX6_and_ 11 = .ok (.iload_n 2, 1) := by decide +kernel
theorem dX6_and__12 : decode cX6_and_ 12 = .ok (.invokevirtual 130, 3) := by decide +kernel
theorem dX6_and__15 : decode cX6_and_ 15 = .ok (.aload_n 0, 1) := by decide +kernel
theorem dX6_and__16 : decode cX6_and_ 16 = .ok (.iload_n 3, 1) := by decide +kernel
theorem dX6_and__17 : decode cX6_and_ 17 = .ok (.invokevirtual 150, 3) := by decide +kernel
theorem dX6_and__20 : decode cX6_and_ 20 = .ok (.ireturn, 1) := by decide +kernel
theorem dX6_implies_0 : decode cX6_implies 0 = .ok (.aload_n 0, 1) := by decide +kernel
theorem dX6_implies_1 : decode cX6_implies 1 = .ok (.aload_n 0, 1) := by decide +kernel
theorem dX6_implies_2 : decode cX6_implies 2 = .ok (.iload_n 1, 1) := by decide +kernel
theorem dX6_implies_3 : decode cX6_implies 3 = .ok (.aload_n 0, 1) := by decide +kernel
theorem dX6_implies_4 : decode cX6_implies 4 = .ok (.iload_n 2, 1) := by decide +kernel
theorem dX6_implies_5 : decode cX6_implies 5 = .ok (.invokevirtual 154, 3) := by decide +kernel
theorem dX6_implies_8 : decode cX6_implies 8 = .ok (.invokevirtual 157, 3) := by decide +kernel
theorem dX6_implies_11 : decode cX6_implies 11 = .ok (.invokevirtual 154, 3) := by decide +kernel
theorem dX6_implies_14 : decode cX6_implies 14 = .ok (.ireturn, 1) := by decide +kernel
theorem dX6_inner_0 : decode cX6_inner 0 = .ok (.aload_n 0, 1) := by decide +kernel
theorem dX6_inner_1 : decode cX6_inner 1 = .ok (.getfield 7, 3) := by decide +kernel
theorem dX6_inner_4 : decode cX6_inner 4 = .ok (.iload_n 1, 1) := by decide +kernel
theorem dX6_inner_5 : decode cX6_inner 5 = .ok (.iaload, 1) := by decide +kernel
theorem dX6_inner_6 : decode cX6_inner 6 = .ok (.bipush 8, 2) := by decide +kernel
theorem dX6_inner_8 : decode cX6_inner 8 = .ok (.if_icmp .ne 9, 3) := by decide +kernel
theorem dX6_inner_11 : decode cX6_inner 11 = .ok (.iload_n 2, 1) := by decide +kernel
theorem dX6_inner_12 : decode cX6_inner 12 = .ok (.iconst 1, 1) := by decide +kernel
theorem dX6_inner_13 : decode cX6_inner 13 = .ok (.iadd, 1) := by decide +kernel
theorem dX6_inner_14 : decode cX6_inner 14 = .ok (.goto 4, 3) := by decide +kernel
theorem dX6_inner_17 : decode cX6_inner 17 = .ok (.iload_n 2, 1) := by decide +kernel
theorem dX6_inner_18 : decode cX6_inner 18 = .ok (.ireturn, 1) := by decide +kernel
