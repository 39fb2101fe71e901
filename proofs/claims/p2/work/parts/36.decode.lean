theorem dX5_proof_0 : decode cX5_proof 0 = .ok (.aload_n 0, 1) := by decide +kernel
theorem dX5_proof_1 : decode cX5_proof 1 = .ok (.iload_n 1, 1) := by decide +kernel
theorem dX5_proof_2 : decode cX5_proof 2 = .ok (.invokevirtual 140, 3) := by decide +kernel
theorem dX5_proof_5 : decode cX5_proof 5 = .ok (.astore_n 2, 1) := by decide +kernel
theorem dX5_proof_6 : decode cX5_proof 6 = .ok (.aload_n 2, 1) := by decide +kernel
theorem dX5_proof_7 : decode cX5_proof 7 = .ok (.ifnonnull 13, 3) := by decide +kernel
theorem dX5_proof_10 : decode cX5_proof 10 = .ok (.new 51, 3) := by decide +kernel
theorem dX5_proof_13 : decode cX5_proof 13 = .ok (.dup, 1) := by decide +kernel
theorem dX5_proof_14 : decode cX5_proof 14 = .ok (.ldc 143, 2) := by decide +kernel
theorem dX5_proof_16 : decode cX5_proof 16 = .ok (.invokespecial 55, 3) := by decide +kernel
theorem dX5_proof_19 : decode cX5_proof 19 = .ok (.athrow, 1) := by decide +kernel
theorem dX5_proof_20 : decode cX5_proof 20 = .ok (.aload_n 0, 1) := by decide +kernel
theorem dX5_proof_21 : decode cX5_proof 21 = .ok (.invokevirtual 145, 3) := by decide +kernel
theorem dX5_proof_24 : decode cX5_proof 24 = .ok (.aload_n 0, 1) := by decide +kernel
theorem dX5_proof_25 : decode cX5_proof 25 = .ok (.iconst 0, 1) := by decide +kernel
theorem dX5_proof_26 : decode cX5_proof 26 = .ok (.aload_n 2, 1) := by decide +kernel
theorem dX5_proof_27 : decode cX5_proof 27 = .ok (.invokevirtual 148, 3) := by decide +kernel
theorem dX5_proof_30 : decode cX5_proof 30 = .ok (.ireturn, 1) := by decide +kernel
theorem dX5_now_0 : decode cX5_now 0 = .ok (.aload_n 0, 1) := by decide +kernel
theorem dX5_now_1 : decode cX5_now 1 = .ok (.invokevirtual 145, 3) := by decide +kernel
theorem dX5_now_4 : decode cX5_now 4 = .ok (.aload_n 0, 1) := by decide +kernel
theorem dX5_now_5 : decode cX5_now 5 = .ok (.iconst 1, 1) := by decide +kernel
theorem dX5_now_6 : decode cX5_now 6 = .ok (.aload_n 0, 1) := by decide +kernel
theorem dX5_now_7 : decode cX5_now 7 = .ok (.getfield 43, 3) := by decide +kernel
theorem dX5_now_10 : decode cX5_now 10 = .ok (.invokevirtual 148, 3) := by decide +kernel
theorem dX5_now_13 : decode cX5_now 13 = .ok (.ireturn, 1) := by decide +kernel
theorem dX5_fit_0 : decode cX5_fit 0 = .ok (.aload_n 0, 1) := by decide +kernel
theorem dX5_fit_1 : decode cX5_fit 1 = .ok (.getfield 47, 3) := by decide +kernel
theorem dX5_fit_4 : decode cX5_fit 4 = .ok (.ireturn, 1) := by decide +kernel
theorem dX5_cases_0 : decode cX5_cases 0 = .ok (.aload_n 0, 1) := by decide +kernel
theorem dX5_cases_1 : decode cX5_cases 1 = .ok (.invokevirtual 169, 3) := by decide +kernel
theorem dX5_cases_4 : decode cX5_cases 4 = .ok (.astore_n 1, 1) := by decide +kernel
theorem dX5_cases_5 : decode cX5_cases 5 = .ok (.aload_n 1, 1) := by decide +kernel
theorem dX5_cases_6 : decode cX5_cases 6 = .ok (.ifnull 18, 3) := by decide +kernel
theorem dX5_cases_9 : decode cX5_cases 9 = .ok (.aload_n 1, 1) := by decide +kernel
theorem dX5_cases_10 : decode cX5_cases 10 = .ok (.getfield 162, 3) := by decide +kernel
theorem dX5_cases_13 : decode cX5_cases 13 = .ok (.iconst 1, 1) := by decide +kernel
theorem dX5_cases_14 : decode cX5_cases 14 = .ok (.if_icmp .eq 10, 3) := by decide +kernel
theorem dX5_cases_17 : decode cX5_cases 17 = .ok (.aload_n 1, 1) := by decide +kernel
theorem dX5_cases_18 : decode cX5_cases 18 = .ok (.getfield 172, 3) := by decide +kernel
theorem dX5_cases_21 : decode cX5_cases 21 = .ok (.ifCond .eq 13, 3) := by decide +kernel
theorem dX5_cases_24 : decode cX5_cases 24 = .ok (.new 62, 3) := by decide +kernel
theorem dX5_cases_27 : decode cX5_cases 27 = .ok (.dup, 1) := by decide +kernel
theorem dX5_cases_28 : decode cX5_cases 28 = .ok (.ldc 175, 2) := by decide +kernel
theorem dX5_cases_30 : decode cX5_cases 30 = .ok (.invokespecial 66, 3) := by decide +kernel
theorem dX5_cases_33 : decode cX5_cases 33 = .ok (.athrow, 1) := by decide +kernel
theorem dX5_cases_34 : decode cX5_cases 34 = .ok (.aload_n 1, 1) := by decide +kernel
theorem dX5_cases_35 : decode cX5_cases 35 = .ok (.iconst 1, 1) := by decide +kernel
theorem dX5_cases_36 : decode cX5_cases 36 = .ok (.putfield 172, 3) := by decide +kernel
theorem dX5_cases_39 : decode cX5_cases 39 = .ok (.return_, 1) := by decide +kernel
theorem dX5_thesis_0 : decode cX5_thesis 0 = .ok (.aload_n 0, 1) := by decide +kernel
theorem dX5_thesis_1 : decode cX5_thesis 1 = .ok (.invokevirtual 169, 3) := by decide +kernel
theorem dX5_thesis_4 : decode cX5_thesis 4 = .ok (.astore_n 1, 1) := by decide +kernel
theorem dX5_thesis_5 : decode cX5_thesis 5 = .ok (.aload_n 1, 1) := by decide +kernel
theorem dX5_thesis_6 : decode cX5_thesis 6 = .ok (.ifnonnull 13, 3) := by decide +kernel
theorem dX5_thesis_9 : decode cX5_thesis 9 = .ok (.new 62, 3) := by decide +kernel
theorem dX5_thesis_12 : decode cX5_thesis 12 = .ok (.dup, 1) := by decide +kernel
theorem dX5_thesis_13 : decode cX5_thesis 13 = .ok (.ldc 190, 2) := by decide +kernel
theorem dX5_thesis_15 : decode cX5_thesis 15 = .ok (.invokespecial 66, 3) := by decide +kernel
theorem dX5_thesis_18 : decode cX5_thesis 18 = .ok (.athrow, 1) := by decide +kernel
theorem dX5_thesis_19 : decode cX5_thesis 19 = .ok (.aload_n 0, 1) := by decide +kernel
theorem dX5_thesis_20 : decode cX5_thesis 20 = .ok (.getfield 32, 3) := by decide +kernel
theorem dX5_thesis_23 : decode cX5_thesis 23 = .ok (.aload_n 1, 1) := by decide +kernel
theorem dX5_thesis_24 : decode cX5_thesis 24 = .ok (.getfield 183, 3) := by decide +kernel
theorem dX5_thesis_27 : decode cX5_thesis 27 = .ok (.invokevirtual 130, 3) := by decide +kernel
theorem dX5_thesis_30 : decode cX5_thesis 30 = .ok (.aload_n 0, 1) := by decide +kernel
theorem dX5_thesis_31 : decode cX5_thesis 31 = .ok (.invokevirtual 96, 3) := by decide +kernel
theorem dX5_thesis_34 : decode cX5_thesis 34 = .ok (.ireturn, 1) := by decide +kernel
theorem dX5_suppose_0 : decode cX5_suppose 0 = .ok (.aload_n 0, 1) := by decide +kernel
theorem dX5_suppose_1 : decode cX5_suppose 1 = .ok (.iload_n 1, 1) := by decide +kernel
theorem dX5_suppose_2 : decode cX5_suppose 2 = .ok (.invokevirtual 140, 3) := by decide +kernel
theorem dX5_suppose_5 : decode cX5_suppose 5 = .ok (.astore_n 2, 1) := by decide +kernel
theorem dX5_suppose_6 : decode cX5_suppose 6 = .ok (.aload_n 2, 1) := by decide +kernel
theorem dX5_suppose_7 : decode cX5_suppose 7 = .ok (.ifnonnull 13, 3) := by decide +kernel
theorem dX5_suppose_10 : decode cX5_suppose 10 = .ok (.new 51, 3) := by decide +kernel
theorem dX5_suppose_13 : decode cX5_suppose 13 = .ok (.dup, 1) := by decide +kernel
theorem dX5_suppose_14 : decode cX5_suppose 14 = .ok (.ldc 143, 2) := by decide +kernel
theorem dX5_suppose_16 : decode cX5_suppose 16 = .ok (.invokespecial 55, 3) := by decide +kernel
theorem dX5_suppose_19 : decode cX5_suppose 19 = .ok (.athrow, 1) := by decide +kernel
theorem dX5_suppose_20 : decode cX5_suppose 20 = .ok (.aload_n 0, 1) := by decide +kernel
theorem dX5_suppose_21 : decode cX5_suppose 21 = .ok (.invokevirtual 177, 3) := by decide +kernel
theorem dX5_suppose_24 : decode cX5_suppose 24 = .ok (.astore_n 3, 1) := by decide +kernel
theorem dX5_suppose_25 : decode cX5_suppose 25 = .ok (.aload_n 0, 1) := by decide +kernel
theorem dX5_suppose_26 : decode cX5_suppose 26 = .ok (.invokevirtual 180, 3) := by decide +kernel
theorem dX5_suppose_29 : decode cX5_suppose 29 = .ok (.aload_n 0, 1) := by decide +kernel
theorem dX5_suppose_30 : decode cX5_suppose 30 = .ok (.iconst 2, 1) := by decide +kernel
theorem dX5_suppose_31 : decode cX5_suppose 31 = .ok (.aload_n 3, 1) := by decide +kernel
theorem dX5_suppose_32 : decode cX5_suppose 32 = .ok (.getfield 183, 3) := by decide +kernel
theorem dX5_suppose_35 : decode cX5_suppose 35 = .ok (.invokevirtual 148, 3) := by decide +kernel
theorem dX5_suppose_38 : decode cX5_suppose 38 = .ok (.istore 4, 2) := by decide +kernel
theorem dX5_suppose_40 : decode cX5_suppose 40 = .ok (.aload_n 0, 1) := by decide +kernel
theorem dX5_suppose_41 : decode cX5_suppose 41 = .ok (.aload_n 3, 1) := by decide +kernel
theorem dX5_suppose_42 : decode cX5_suppose 42 = .ok (.iconst 5, 1) := by decide +kernel
theorem dX5_suppose_43 : decode cX5_suppose 43 = .ok (.iconst (-1), 1) := by decide +kernel
theorem dX5_suppose_44 : decode cX5_suppose 44 = .ok (.aload_n 2, 1) := by decide +kernel
theorem dX5_suppose_45 : decode cX5_suppose 45 = .ok (.invokevirtual 186, 3) := by decide +kernel
theorem dX5_suppose_48 : decode cX5_suppose 48 = .ok (.iload 4, 2) := by decide +kernel
theorem dX5_suppose_50 : decode cX5_suppose 50 = .ok (.ireturn, 1) := by decide +kernel
