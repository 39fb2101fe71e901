theorem dX6_thesis_0 : decode cX6_thesis 0 = .ok (.aload_n 0, 1) := by decide +kernel
theorem dX6_thesis_1 : decode cX6_thesis 1 = .ok (.iconst 0, 1) := by decide +kernel
theorem dX6_thesis_2 : decode cX6_thesis 2 = .ok (.putfield 93, 3) := by decide +kernel
theorem dX6_thesis_5 : decode cX6_thesis 5 = .ok (.aload_n 0, 1) := by decide +kernel
theorem dX6_thesis_6 : decode cX6_thesis 6 = .ok (.getfield 187, 3) := by decide +kernel
theorem dX6_thesis_9 : decode cX6_thesis 9 = .ok (.ifCond .ne 11, 3) := by decide +kernel
theorem dX6_thesis_12 : decode cX6_thesis 12 = .ok (.aload_n 0, 1) := by decide +kernel
theorem dX6_thesis_13 : decode cX6_thesis 13 = .ok (.iconst 1, 1) := by decide +kernel
theorem dX6_thesis_14 : decode cX6_thesis 14 = .ok (.invokevirtual 208, 3) := by decide +kernel
theorem dX6_thesis_17 : decode cX6_thesis 17 = .ok (.goto 19, 3) := by decide +kernel
theorem dX6_thesis_20 : decode cX6_thesis 20 = .ok (.aload_n 0, 1) := by decide +kernel
theorem dX6_thesis_21 : decode cX6_thesis 21 = .ok (.aload_n 0, 1) := by decide +kernel
theorem dX6_thesis_22 : decode cX6_thesis 22 = .ok (.getfield 55, 3) := by decide +kernel
theorem dX6_thesis_25 : decode cX6_thesis 25 = .ok (.aload_n 0, 1) := by decide +kernel
theorem dX6_thesis_26 : decode cX6_thesis 26 = .ok (.getfield 187, 3) := by decide +kernel
theorem dX6_thesis_29 : decode cX6_thesis 29 = .ok (.iconst 1, 1) := by decide +kernel
theorem dX6_thesis_30 : decode cX6_thesis 30 = .ok (.isub, 1) := by decide +kernel
theorem dX6_thesis_31 : decode cX6_thesis 31 = .ok (.iaload, 1) := by decide +kernel
theorem dX6_thesis_32 : decode cX6_thesis 32 = .ok (.iconst 1, 1) := by decide +kernel
theorem dX6_thesis_33 : decode cX6_thesis 33 = .ok (.invokevirtual 227, 3) := by decide +kernel
theorem dX6_thesis_36 : decode cX6_thesis 36 = .ok (.ireturn, 1) := by decide +kernel
theorem dX6_now_0 : decode cX6_now 0 = .ok (.aload_n 0, 1) := by decide +kernel
theorem dX6_now_1 : decode cX6_now 1 = .ok (.iconst 0, 1) := by decide +kernel
theorem dX6_now_2 : decode cX6_now 2 = .ok (.putfield 93, 3) := by decide +kernel
theorem dX6_now_5 : decode cX6_now 5 = .ok (.aload_n 0, 1) := by decide +kernel
theorem dX6_now_6 : decode cX6_now 6 = .ok (.getfield 187, 3) := by decide +kernel
theorem dX6_now_9 : decode cX6_now 9 = .ok (.bipush 40, 2) := by decide +kernel
theorem dX6_now_11 : decode cX6_now 11 = .ok (.if_icmp .eq 17, 3) := by decide +kernel
theorem dX6_now_14 : decode cX6_now 14 = .ok (.aload_n 0, 1) := by decide +kernel
theorem dX6_now_15 : decode cX6_now 15 = .ok (.getfield 187, 3) := by decide +kernel
theorem dX6_now_18 : decode cX6_now 18 = .ok (.ifCond .le 16, 3) := by decide +kernel
theorem dX6_now_21 : decode cX6_now 21 = .ok (.aload_n 0, 1) := by decide +kernel
theorem dX6_now_22 : decode cX6_now 22 = .ok (.invokevirtual 239, 3) := by decide +kernel
theorem dX6_now_25 : decode cX6_now 25 = .ok (.ifCond .ne 9, 3) := by decide +kernel
theorem dX6_now_28 : decode cX6_now 28 = .ok (.aload_n 0, 1) := by decide +kernel
theorem dX6_now_29 : decode cX6_now 29 = .ok (.iconst 1, 1) := by decide +kernel
theorem dX6_now_30 : decode cX6_now 30 = .ok (.invokevirtual 208, 3) := by decide +kernel
theorem dX6_now_33 : decode cX6_now 33 = .ok (.ireturn, 1) := by decide +kernel
theorem dX6_now_34 : decode cX6_now 34 = .ok (.aload_n 0, 1) := by decide +kernel
theorem dX6_now_35 : decode cX6_now 35 = .ok (.iconst 2, 1) := by decide +kernel
theorem dX6_now_36 : decode cX6_now 36 = .ok (.aload_n 0, 1) := by decide +kernel
theorem dX6_now_37 : decode cX6_now 37 = .ok (.invokevirtual 147, 3) := by decide +kernel
theorem dX6_now_40 : decode cX6_now 40 = .ok (.invokevirtual 243, 3) := by decide +kernel
theorem dX6_now_43 : decode cX6_now 43 = .ok (.ireturn, 1) := by decide +kernel
theorem dX6_proof_0 : decode cX6_proof 0 = .ok (.aload_n 0, 1) := by decide +kernel
theorem dX6_proof_1 : decode cX6_proof 1 = .ok (.iconst 0, 1) := by decide +kernel
theorem dX6_proof_2 : decode cX6_proof 2 = .ok (.putfield 93, 3) := by decide +kernel
theorem dX6_proof_5 : decode cX6_proof 5 = .ok (.aload_n 0, 1) := by decide +kernel
theorem dX6_proof_6 : decode cX6_proof 6 = .ok (.iload_n 1, 1) := by decide +kernel
theorem dX6_proof_7 : decode cX6_proof 7 = .ok (.invokevirtual 236, 3) := by decide +kernel
theorem dX6_proof_10 : decode cX6_proof 10 = .ok (.istore_n 2, 1) := by decide +kernel
theorem dX6_proof_11 : decode cX6_proof 11 = .ok (.iload_n 2, 1) := by decide +kernel
theorem dX6_proof_12 : decode cX6_proof 12 = .ok (.ifCond .ne 9, 3) := by decide +kernel
theorem dX6_proof_15 : decode cX6_proof 15 = .ok (.aload_n 0, 1) := by decide +kernel
theorem dX6_proof_16 : decode cX6_proof 16 = .ok (.iconst 1, 1) := by decide +kernel
theorem dX6_proof_17 : decode cX6_proof 17 = .ok (.invokevirtual 208, 3) := by decide +kernel
theorem dX6_proof_20 : decode cX6_proof 20 = .ok (.ireturn, 1) := by decide +kernel
theorem dX6_proof_21 : decode cX6_proof 21 = .ok (.aload_n 0, 1) := by decide +kernel
theorem dX6_proof_22 : decode cX6_proof 22 = .ok (.getfield 187, 3) := by decide +kernel
theorem dX6_proof_25 : decode cX6_proof 25 = .ok (.bipush 40, 2) := by decide +kernel
theorem dX6_proof_27 : decode cX6_proof 27 = .ok (.if_icmp .eq 17, 3) := by decide +kernel
theorem dX6_proof_30 : decode cX6_proof 30 = .ok (.aload_n 0, 1) := by decide +kernel
theorem dX6_proof_31 : decode cX6_proof 31 = .ok (.getfield 187, 3) := by decide +kernel
theorem dX6_proof_34 : decode cX6_proof 34 = .ok (.ifCond .le 16, 3) := by decide +kernel
theorem dX6_proof_37 : decode cX6_proof 37 = .ok (.aload_n 0, 1) := by decide +kernel
theorem dX6_proof_38 : decode cX6_proof 38 = .ok (.invokevirtual 239, 3) := by decide +kernel
theorem dX6_proof_41 : decode cX6_proof 41 = .ok (.ifCond .ne 9, 3) := by decide +kernel
theorem dX6_proof_44 : decode cX6_proof 44 = .ok (.aload_n 0, 1) := by decide +kernel
theorem dX6_proof_45 : decode cX6_proof 45 = .ok (.iconst 2, 1) := by decide +kernel
theorem dX6_proof_46 : decode cX6_proof 46 = .ok (.invokevirtual 208, 3) := by decide +kernel
theorem dX6_proof_49 : decode cX6_proof 49 = .ok (.ireturn, 1) := by decide +kernel
theorem dX6_proof_50 : decode cX6_proof 50 = .ok (.aload_n 0, 1) := by decide +kernel
theorem dX6_proof_51 : decode cX6_proof 51 = .ok (.iconst 1, 1) := by decide +kernel
theorem dX6_proof_52 : decode cX6_proof 52 = .ok (.iload_n 2, 1) := by decide +kernel
theorem dX6_proof_53 : decode cX6_proof 53 = .ok (.invokevirtual 243, 3) := by decide +kernel
theorem dX6_proof_56 : decode cX6_proof 56 = .ok (.ireturn, 1) := by decide +kernel
