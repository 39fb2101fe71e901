theorem dX5_assume_0 : decode cX5_assume 0 = .ok (.aload_n 0, 1) := by decide +kernel
theorem dX5_assume_1 : decode cX5_assume 1 = .ok (.iload_n 1, 1) := by decide +kernel
theorem dX5_assume_2 : decode cX5_assume 2 = .ok (.invokevirtual 140, 3) := by decide +kernel
theorem dX5_assume_5 : decode cX5_assume 5 = .ok (.astore_n 2, 1) := by decide +kernel
theorem dX5_assume_6 : decode cX5_assume 6 = .ok (.aload_n 2, 1) := by decide +kernel
theorem dX5_assume_7 : decode cX5_assume 7 = .ok (.ifnonnull 13, 3) := by decide +kernel
theorem dX5_assume_10 : decode cX5_assume 10 = .ok (.new 51, 3) := by decide +kernel
theorem dX5_assume_13 : decode cX5_assume 13 = .ok (.dup, 1) := by decide +kernel
theorem dX5_assume_14 : decode cX5_assume 14 = .ok (.ldc 143, 2) := by decide +kernel
theorem dX5_assume_16 : decode cX5_assume 16 = .ok (.invokespecial 55, 3) := by decide +kernel
theorem dX5_assume_19 : decode cX5_assume 19 = .ok (.athrow, 1) := by decide +kernel
theorem dX5_assume_20 : decode cX5_assume 20 = .ok (.aload_n 0, 1) := by decide +kernel
theorem dX5_assume_21 : decode cX5_assume 21 = .ok (.aload_n 0, 1) := by decide +kernel
theorem dX5_assume_22 : decode cX5_assume 22 = .ok (.invokevirtual 152, 3) := by decide +kernel
theorem dX5_assume_25 : decode cX5_assume 25 = .ok (.iconst 1, 1) := by decide +kernel
theorem dX5_assume_26 : decode cX5_assume 26 = .ok (.iconst (-1), 1) := by decide +kernel
theorem dX5_assume_27 : decode cX5_assume 27 = .ok (.aload_n 2, 1) := by decide +kernel
theorem dX5_assume_28 : decode cX5_assume 28 = .ok (.invokevirtual 156, 3) := by decide +kernel
theorem dX5_assume_31 : decode cX5_assume 31 = .ok (.ireturn, 1) := by decide +kernel
theorem dX5_thus_0 : decode cX5_thus 0 = .ok (.aload_n 0, 1) := by decide +kernel
theorem dX5_thus_1 : decode cX5_thus 1 = .ok (.iload_n 1, 1) := by decide +kernel
theorem dX5_thus_2 : decode cX5_thus 2 = .ok (.invokevirtual 140, 3) := by decide +kernel
theorem dX5_thus_5 : decode cX5_thus 5 = .ok (.astore_n 2, 1) := by decide +kernel
theorem dX5_thus_6 : decode cX5_thus 6 = .ok (.aload_n 2, 1) := by decide +kernel
theorem dX5_thus_7 : decode cX5_thus 7 = .ok (.ifnonnull 13, 3) := by decide +kernel
theorem dX5_thus_10 : decode cX5_thus 10 = .ok (.new 51, 3) := by decide +kernel
theorem dX5_thus_13 : decode cX5_thus 13 = .ok (.dup, 1) := by decide +kernel
theorem dX5_thus_14 : decode cX5_thus 14 = .ok (.ldc 143, 2) := by decide +kernel
theorem dX5_thus_16 : decode cX5_thus 16 = .ok (.invokespecial 55, 3) := by decide +kernel
theorem dX5_thus_19 : decode cX5_thus 19 = .ok (.athrow, 1) := by decide +kernel
theorem dX5_thus_20 : decode cX5_thus 20 = .ok (.aload_n 0, 1) := by decide +kernel
theorem dX5_thus_21 : decode cX5_thus 21 = .ok (.aload_n 0, 1) := by decide +kernel
theorem dX5_thus_22 : decode cX5_thus 22 = .ok (.invokevirtual 152, 3) := by decide +kernel
theorem dX5_thus_25 : decode cX5_thus 25 = .ok (.iconst 2, 1) := by decide +kernel
theorem dX5_thus_26 : decode cX5_thus 26 = .ok (.iconst (-1), 1) := by decide +kernel
theorem dX5_thus_27 : decode cX5_thus 27 = .ok (.aload_n 2, 1) := by decide +kernel
theorem dX5_thus_28 : decode cX5_thus 28 = .ok (.invokevirtual 156, 3) := by decide +kernel
theorem dX5_thus_31 : decode cX5_thus 31 = .ok (.ireturn, 1) := by decide +kernel
theorem dX5_take_0 : decode cX5_take 0 = .ok (.aload_n 0, 1) := by decide +kernel
theorem dX5_take_1 : decode cX5_take 1 = .ok (.iload_n 1, 1) := by decide +kernel
theorem dX5_take_2 : decode cX5_take 2 = .ok (.invokevirtual 124, 3) := by decide +kernel
theorem dX5_take_5 : decode cX5_take 5 = .ok (.istore_n 2, 1) := by decide +kernel
theorem dX5_take_6 : decode cX5_take 6 = .ok (.iload_n 2, 1) := by decide +kernel
theorem dX5_take_7 : decode cX5_take 7 = .ok (.iconst (-1), 1) := by decide +kernel
theorem dX5_take_8 : decode cX5_take 8 = .ok (.if_icmp .ne 13, 3) := by decide +kernel
theorem dX5_take_11 : decode cX5_take 11 = .ok (.new 51, 3) := by decide +kernel
theorem dX5_take_14 : decode cX5_take 14 = .ok (.dup, 1) := by decide +kernel
theorem dX5_take_15 : decode cX5_take 15 = .ok (.ldc 160, 2) := by decide +kernel
theorem dX5_take_17 : decode cX5_take 17 = .ok (.invokespecial 55, 3) := by decide +kernel
theorem dX5_take_20 : decode cX5_take 20 = .ok (.athrow, 1) := by decide +kernel
theorem dX5_take_21 : decode cX5_take 21 = .ok (.aload_n 0, 1) := by decide +kernel
theorem dX5_take_22 : decode cX5_take 22 = .ok (.invokevirtual 152, 3) := by decide +kernel
theorem dX5_take_25 : decode cX5_take 25 = .ok (.astore_n 3, 1) := by decide +kernel
theorem dX5_take_26 : decode cX5_take 26 = .ok (.aload_n 3, 1) := by decide +kernel
theorem dX5_take_27 : decode cX5_take 27 = .ok (.getfield 162, 3) := by decide +kernel
theorem dX5_take_30 : decode cX5_take 30 = .ok (.iconst 1, 1) := by decide +kernel
theorem dX5_take_31 : decode cX5_take 31 = .ok (.if_icmp .ne 13, 3) := by decide +kernel
theorem dX5_take_34 : decode cX5_take 34 = .ok (.new 62, 3) := by decide +kernel
theorem dX5_take_37 : decode cX5_take 37 = .ok (.dup, 1) := by decide +kernel
theorem dX5_take_38 : decode cX5_take 38 = .ok (.ldc 165, 2) := by decide +kernel
theorem dX5_take_40 : decode cX5_take 40 = .ok (.invokespecial 66, 3) := by decide +kernel
theorem dX5_take_43 : decode cX5_take 43 = .ok (.athrow, 1) := by decide +kernel
theorem dX5_take_44 : decode cX5_take 44 = .ok (.aload_n 0, 1) := by decide +kernel
theorem dX5_take_45 : decode cX5_take 45 = .ok (.aload_n 3, 1) := by decide +kernel
theorem dX5_take_46 : decode cX5_take 46 = .ok (.iconst 3, 1) := by decide +kernel
theorem dX5_take_47 : decode cX5_take 47 = .ok (.iload_n 2, 1) := by decide +kernel
theorem dX5_take_48 : decode cX5_take 48 = .ok (.aconst_null, 1) := by decide +kernel
theorem dX5_take_49 : decode cX5_take 49 = .ok (.invokevirtual 156, 3) := by decide +kernel
theorem dX5_take_52 : decode cX5_take 52 = .ok (.ireturn, 1) := by decide +kernel
theorem dX5_given_0 : decode cX5_given 0 = .ok (.aload_n 0, 1) := by decide +kernel
theorem dX5_given_1 : decode cX5_given 1 = .ok (.iload_n 1, 1) := by decide +kernel
theorem dX5_given_2 : decode cX5_given 2 = .ok (.invokevirtual 124, 3) := by decide +kernel
theorem dX5_given_5 : decode cX5_given 5 = .ok (.istore_n 3, 1) := by decide +kernel
theorem dX5_given_6 : decode cX5_given 6 = .ok (.aload_n 0, 1) := by decide +kernel
theorem dX5_given_7 : decode cX5_given 7 = .ok (.iload_n 2, 1) := by decide +kernel
theorem dX5_given_8 : decode cX5_given 8 = .ok (.invokevirtual 140, 3) := by decide +kernel
theorem dX5_given_11 : decode cX5_given 11 = .ok (.astore 4, 2) := by decide +kernel
theorem dX5_given_13 : decode cX5_given 13 = .ok (.iload_n 3, 1) := by decide +kernel
theorem dX5_given_14 : decode cX5_given 14 = .ok (.iconst (-1), 1) := by decide +kernel
theorem dX5_given_15 : decode cX5_given 15 = .ok (.if_icmp .eq 8, 3) := by decide +kernel
theorem dX5_given_18 : decode cX5_given 18 = .ok (.aload 4, 2) := by decide +kernel
theorem dX5_given_20 : decode cX5_given 20 = .ok (.ifnonnull 13, 3) := by decide +kernel
theorem dX5_given_23 : decode cX5_given 23 = .ok (.new 51, 3) := by decide +kernel
theorem dX5_given_26 : decode cX5_given 26 = .ok (.dup, 1) := by decide +kernel
theorem dX5_given_27 : decode cX5_given 27 = .ok (.ldc 167, 2) := by decide +kernel
theorem dX5_given_29 : decode cX5_given 29 = .ok (.invokespecial 55, 3) := by decide +kernel
theorem dX5_given_32 : decode cX5_given 32 = .ok (.athrow, 1) := by decide +kernel
theorem dX5_given_33 : decode cX5_given 33 = .ok (.aload_n 0, 1) := by decide +kernel
theorem dX5_given_34 : decode cX5_given 34 = .ok (.aload_n 0, 1) := by decide +kernel
theorem dX5_given_35 : decode cX5_given 35 = .ok (.invokevirtual 152, 3) := by decide +kernel
theorem dX5_given_38 : decode cX5_given 38 = .ok (.iconst 4, 1) := by decide +kernel
theorem dX5_given_39 : decode cX5_given 39 = .ok (.iload_n 3, 1) := by decide +kernel
theorem dX5_given_40 : decode cX5_given 40 = .ok (.aload 4, 2) := by decide +kernel
theorem dX5_given_42 : decode cX5_given 42 = .ok (.invokevirtual 156, 3) := by decide +kernel
theorem dX5_given_45 : decode cX5_given 45 = .ok (.ireturn, 1) := by decide +kernel
theorem dX5_let_0 : decode cX5_let 0 = .ok (.aload_n 0, 1) := by decide +kernel
theorem dX5_let_1 : decode cX5_let 1 = .ok (.invokevirtual 152, 3) := by decide +kernel
theorem dX5_let_4 : decode cX5_let 4 = .ok (.astore_n 1, 1) := by decide +kernel
theorem dX5_let_5 : decode cX5_let 5 = .ok (.aload_n 0, 1) := by decide +kernel
theorem dX5_let_6 : decode cX5_let 6 = .ok (.invokevirtual 80, 3) := by decide +kernel
theorem dX5_let_9 : decode cX5_let 9 = .ok (.istore_n 2, 1) := by decide +kernel
theorem dX5_let_10 : decode cX5_let 10 = .ok (.aload_n 0, 1) := by decide +kernel
theorem dX5_let_11 : decode cX5_let 11 = .ok (.aload_n 1, 1) := by decide +kernel
theorem dX5_let_12 : decode cX5_let 12 = .ok (.iconst 0, 1) := by decide +kernel
theorem dX5_let_13 : decode cX5_let 13 = .ok (.aload_n 0, 1) := by decide +kernel
theorem dX5_let_14 : decode cX5_let 14 = .ok (.iload_n 2, 1) := by decide +kernel
theorem dX5_let_15 : decode cX5_let 15 = .ok (.invokevirtual 124, 3) := by decide +kernel
theorem dX5_let_18 : decode cX5_let 18 = .ok (.aconst_null, 1) := by decide +kernel
theorem dX5_let_19 : decode cX5_let 19 = .ok (.invokevirtual 156, 3) := by decide +kernel
theorem dX5_let_22 : decode cX5_let 22 = .ok (.pop, 1) := by decide +kernel
theorem dX5_let_23 : decode cX5_let 23 = .ok (.iload_n 2, 1) := by decide +kernel
theorem dX5_let_24 : decode cX5_let 24 = .ok (.ireturn, 1) := by decide +kernel
