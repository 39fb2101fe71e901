theorem dX5_isPredicate_0 : decode cX5_isPredicate 0 = .ok (.iload_n 1, 1) := by decide +kernel
theorem dX5_isPredicate_1 : decode cX5_isPredicate 1 = .ok (.ifCond .lt 21, 3) := by decide +kernel
theorem dX5_isPredicate_4 : decode cX5_isPredicate 4 = .ok (.iload_n 1, 1) := by decide +kernel
theorem dX5_isPredicate_5 : decode cX5_isPredicate 5 = .ok (.aload_n 0, 1) := by decide +kernel
theorem dX5_isPredicate_6 : decode cX5_isPredicate 6 = .ok (.getfield 58, 3) := by decide +kernel
theorem dX5_isPredicate_9 : decode cX5_isPredicate 9 = .ok (.if_icmp .ge 13, 3) := by decide +kernel
theorem dX5_isPredicate_12 : decode cX5_isPredicate 12 = .ok (.iload_n 1, 1) := by decide +kernel
theorem dX5_isPredicate_13 : decode cX5_isPredicate 13 = .ok (.bipush 30, 2) := by decide +kernel
theorem dX5_isPredicate_15 : decode cX5_isPredicate 15 = .ok (.if_icmp .ge 7, 3) := by decide +kernel
theorem dX5_isPredicate_18 : decode cX5_isPredicate 18 = .ok (.iconst 1, 1) := by decide +kernel
theorem dX5_isPredicate_19 : decode cX5_isPredicate 19 = .ok (.goto 4, 3) := by decide +kernel
theorem dX5_isPredicate_22 : decode cX5_isPredicate 22 = .ok (.iconst 0, 1) := by decide +kernel
theorem dX5_isPredicate_23 : decode cX5_isPredicate 23 = .ok (.ireturn, 1) := by decide +kernel
theorem dX5_formAt_0 : decode cX5_formAt 0 = .ok (.iload_n 1, 1) := by decide +kernel
theorem dX5_formAt_1 : decode cX5_formAt 1 = .ok (.ifCond .lt 27, 3) := by decide +kernel
theorem dX5_formAt_4 : decode cX5_formAt 4 = .ok (.iload_n 1, 1) := by decide +kernel
theorem dX5_formAt_5 : decode cX5_formAt 5 = .ok (.aload_n 0, 1) := by decide +kernel
theorem dX5_formAt_6 : decode cX5_formAt 6 = .ok (.getfield 254, 3) := by decide +kernel
theorem dX5_formAt_9 : decode cX5_formAt 9 = .ok (.if_icmp .ge 19, 3) := by decide +kernel
theorem dX5_formAt_12 : decode cX5_formAt 12 = .ok (.iload_n 1, 1) := by decide +kernel
theorem dX5_formAt_13 : decode cX5_formAt 13 = .ok (.sipush 1000, 3) := by decide +kernel
theorem dX5_formAt_16 : decode cX5_formAt 16 = .ok (.if_icmp .ge 12, 3) := by decide +kernel
theorem dX5_formAt_19 : decode cX5_formAt 19 = .ok (.aload_n 0, 1) := by decide +kernel
theorem dX5_formAt_20 : decode cX5_formAt 20 = .ok (.getfield 11, 3) := by decide +kernel
theorem dX5_formAt_23 : decode cX5_formAt 23 = .ok (.iload_n 1, 1) := by decide +kernel
theorem dX5_formAt_24 : decode cX5_formAt 24 = .ok (.aaload, 1) := by decide +kernel
theorem dX5_formAt_25 : decode cX5_formAt 25 = .ok (.goto 4, 3) := by decide +kernel
theorem dX5_formAt_28 : decode cX5_formAt 28 = .ok (.aconst_null, 1) := by decide +kernel
theorem dX5_formAt_29 : decode cX5_formAt 29 = .ok (.areturn, 1) := by decide +kernel
theorem dX5_wholeAt_0 : decode cX5_wholeAt 0 = .ok (.aload_n 0, 1) := by decide +kernel
theorem dX5_wholeAt_1 : decode cX5_wholeAt 1 = .ok (.iload_n 1, 1) := by decide +kernel
theorem dX5_wholeAt_2 : decode cX5_wholeAt 2 = .ok (.invokevirtual 226, 3) := by decide +kernel
theorem dX5_wholeAt_5 : decode cX5_wholeAt 5 = .ok (.astore_n 2, 1) := by decide +kernel
theorem dX5_wholeAt_6 : decode cX5_wholeAt 6 = .ok (.aload_n 2, 1) := by decide +kernel
theorem dX5_wholeAt_7 : decode cX5_wholeAt 7 = .ok (.ifnull 14, 3) := by decide +kernel
theorem dX5_wholeAt_10 : decode cX5_wholeAt 10 = .ok (.aload_n 2, 1) := by decide +kernel
theorem dX5_wholeAt_11 : decode cX5_wholeAt 11 = .ok (.getfield 265, 3) := by decide +kernel
theorem dX5_wholeAt_14 : decode cX5_wholeAt 14 = .ok (.ifCond .eq 7, 3) := by decide +kernel
theorem dX5_wholeAt_17 : decode cX5_wholeAt 17 = .ok (.aload_n 2, 1) := by decide +kernel
theorem dX5_wholeAt_18 : decode cX5_wholeAt 18 = .ok (.goto 4, 3) := by decide +kernel
theorem dX5_wholeAt_21 : decode cX5_wholeAt 21 = .ok (.aconst_null, 1) := by decide +kernel
theorem dX5_wholeAt_22 : decode cX5_wholeAt 22 = .ok (.areturn, 1) := by decide +kernel
theorem dX5_formulaAt_0 : decode cX5_formulaAt 0 = .ok (.aload_n 0, 1) := by decide +kernel
theorem dX5_formulaAt_1 : decode cX5_formulaAt 1 = .ok (.iload_n 1, 1) := by decide +kernel
theorem dX5_formulaAt_2 : decode cX5_formulaAt 2 = .ok (.invokevirtual 268, 3) := by decide +kernel
theorem dX5_formulaAt_5 : decode cX5_formulaAt 5 = .ok (.astore_n 2, 1) := by decide +kernel
theorem dX5_formulaAt_6 : decode cX5_formulaAt 6 = .ok (.aload_n 2, 1) := by decide +kernel
theorem dX5_formulaAt_7 : decode cX5_formulaAt 7 = .ok (.ifnull 14, 3) := by decide +kernel
theorem dX5_formulaAt_10 : decode cX5_formulaAt 10 = .ok (.aload_n 2, 1) := by decide +kernel
theorem dX5_formulaAt_11 : decode cX5_formulaAt 11 = .ok (.invokevirtual 271, 3) := by decide +kernel
theorem dX5_formulaAt_14 : decode cX5_formulaAt 14 = .ok (.ifCond .ne 7, 3) := by decide +kernel
theorem dX5_formulaAt_17 : decode cX5_formulaAt 17 = .ok (.aload_n 2, 1) := by decide +kernel
theorem dX5_formulaAt_18 : decode cX5_formulaAt 18 = .ok (.goto 4, 3) := by decide +kernel
theorem dX5_formulaAt_21 : decode cX5_formulaAt 21 = .ok (.aconst_null, 1) := by decide +kernel
theorem dX5_formulaAt_22 : decode cX5_formulaAt 22 = .ok (.areturn, 1) := by decide +kernel
theorem dX5_closedAt_0 : decode cX5_closedAt 0 = .ok (.aload_n 0, 1) := by decide +kernel
theorem dX5_closedAt_1 : decode cX5_closedAt 1 = .ok (.iload_n 1, 1) := by decide +kernel
theorem dX5_closedAt_2 : decode cX5_closedAt 2 = .ok (.invokevirtual 67, 3) := by decide +kernel
theorem dX5_closedAt_5 : decode cX5_closedAt 5 = .ok (.astore_n 2, 1) := by decide +kernel
theorem dX5_closedAt_6 : decode cX5_closedAt 6 = .ok (.aload_n 2, 1) := by decide +kernel
theorem dX5_closedAt_7 : decode cX5_closedAt 7 = .ok (.ifnull 14, 3) := by decide +kernel
theorem dX5_closedAt_10 : decode cX5_closedAt 10 = .ok (.aload_n 2, 1) := by decide +kernel
theorem dX5_closedAt_11 : decode cX5_closedAt 11 = .ok (.getfield 75, 3) := by decide +kernel
theorem dX5_closedAt_14 : decode cX5_closedAt 14 = .ok (.ifCond .ne 7, 3) := by decide +kernel
theorem dX5_closedAt_17 : decode cX5_closedAt 17 = .ok (.aload_n 2, 1) := by decide +kernel
theorem dX5_closedAt_18 : decode cX5_closedAt 18 = .ok (.goto 4, 3) := by decide +kernel
theorem dX5_closedAt_21 : decode cX5_closedAt 21 = .ok (.aconst_null, 1) := by decide +kernel
theorem dX5_closedAt_22 : decode cX5_closedAt 22 = .ok (.areturn, 1) := by decide +kernel
theorem dX5_termAt_0 : decode cX5_termAt 0 = .ok (.aload_n 0, 1) := by decide +kernel
theorem dX5_termAt_1 : decode cX5_termAt 1 = .ok (.iload_n 1, 1) := by decide +kernel
theorem dX5_termAt_2 : decode cX5_termAt 2 = .ok (.invokevirtual 268, 3) := by decide +kernel
theorem dX5_termAt_5 : decode cX5_termAt 5 = .ok (.astore_n 2, 1) := by decide +kernel
theorem dX5_termAt_6 : decode cX5_termAt 6 = .ok (.aload_n 2, 1) := by decide +kernel
theorem dX5_termAt_7 : decode cX5_termAt 7 = .ok (.ifnull 14, 3) := by decide +kernel
theorem dX5_termAt_10 : decode cX5_termAt 10 = .ok (.aload_n 2, 1) := by decide +kernel
theorem dX5_termAt_11 : decode cX5_termAt 11 = .ok (.invokevirtual 271, 3) := by decide +kernel
theorem dX5_termAt_14 : decode cX5_termAt 14 = .ok (.ifCond .eq 7, 3) := by decide +kernel
theorem dX5_termAt_17 : decode cX5_termAt 17 = .ok (.aload_n 2, 1) := by decide +kernel
theorem dX5_termAt_18 : decode cX5_termAt 18 = .ok (.goto 4, 3) := by decide +kernel
theorem dX5_termAt_21 : decode cX5_termAt 21 = .ok (.aconst_null, 1) := by decide +kernel
theorem dX5_termAt_22 : decode cX5_termAt 22 = .ok (.areturn, 1) := by decide +kernel
theorem dX5_constantAt_0 : decode cX5_constantAt 0 = .ok (.aload_n 0, 1) := by decide +kernel
theorem dX5_constantAt_1 : decode cX5_constantAt 1 = .ok (.iload_n 1, 1) := by decide +kernel
theorem dX5_constantAt_2 : decode cX5_constantAt 2 = .ok (.invokevirtual 226, 3) := by decide +kernel
theorem dX5_constantAt_5 : decode cX5_constantAt 5 = .ok (.astore_n 2, 1) := by decide +kernel
theorem dX5_constantAt_6 : decode cX5_constantAt 6 = .ok (.aload_n 2, 1) := by decide +kernel
theorem dX5_constantAt_7 : decode cX5_constantAt 7 = .ok (.ifnull 20, 3) := by decide +kernel
theorem dX5_constantAt_10 : decode cX5_constantAt 10 = .ok (.aload_n 2, 1) := by decide +kernel
theorem dX5_constantAt_11 : decode cX5_constantAt 11 = .ok (.invokevirtual 231, 3) := by decide +kernel
theorem dX5_constantAt_14 : decode cX5_constantAt 14 = .ok (.invokestatic 234, 3) := by decide +kernel
theorem dX5_constantAt_17 : decode cX5_constantAt 17 = .ok (.ifCond .ne 10, 3) := by decide +kernel
theorem dX5_constantAt_20 : decode cX5_constantAt 20 = .ok (.aload_n 2, 1) := by decide +kernel
theorem dX5_constantAt_21 : decode cX5_constantAt 21 = .ok (.invokevirtual 231, 3) := by decide +kernel
theorem dX5_constantAt_24 : decode cX5_constantAt 24 = .ok (.goto 4, 3) := by decide +kernel
theorem dX5_constantAt_27 : decode cX5_constantAt 27 = .ok (.iconst (-1), 1) := by decide +kernel
theorem dX5_constantAt_28 : decode cX5_constantAt 28 = .ok (.ireturn, 1) := by decide +kernel
theorem dX5_isTermOrNone_0 : decode cX5_isTermOrNone 0 = .ok (.iload_n 2, 1) := by decide +kernel
theorem dX5_isTermOrNone_1 : decode cX5_isTermOrNone 1 = .ok (.ifCond .eq 19, 3) := by decide +kernel
theorem dX5_isTermOrNone_4 : decode cX5_isTermOrNone 4 = .ok (.aload_n 0, 1) := by decide +kernel
theorem dX5_isTermOrNone_5 : decode cX5_isTermOrNone 5 = .ok (.iload_n 1, 1) := by decide +kernel
theorem dX5_isTermOrNone_6 : decode cX5_isTermOrNone 6 = .ok (.invokevirtual 274, 3) := by decide +kernel
theorem dX5_isTermOrNone_9 : decode cX5_isTermOrNone 9 = .ok (.ifnull 7, 3) := by decide +kernel
theorem dX5_isTermOrNone_12 : decode cX5_isTermOrNone 12 = .ok (.iconst 1, 1) := by decide +kernel
theorem dX5_isTermOrNone_13 : decode cX5_isTermOrNone 13 = .ok (.goto 17, 3) := by decide +kernel
theorem dX5_isTermOrNone_16 : decode cX5_isTermOrNone 16 = .ok (.iconst 0, 1) := by decide +kernel
theorem dX5_isTermOrNone_17 : decode cX5_isTermOrNone 17 = .ok (.goto 13, 3) := by decide +kernel
theorem dX5_isTermOrNone_20 : decode cX5_isTermOrNone 20 = .ok (.iload_n 1, 1) := by decide +kernel
theorem dX5_isTermOrNone_21 : decode cX5_isTermOrNone 21 = .ok (.iconst (-1), 1) := by decide +kernel
theorem dX5_isTermOrNone_22 : decode cX5_isTermOrNone 22 = .ok (.if_icmp .ne 7, 3) := by decide +kernel
theorem dX5_isTermOrNone_25 : decode cX5_isTermOrNone 25 = .ok (.iconst 1, 1) := by decide +kernel
theorem dX5_isTermOrNone_26 : decode cX5_isTermOrNone 26 = .ok (.goto 4, 3) := by decide +kernel
theorem dX5_isTermOrNone_29 : decode cX5_isTermOrNone 29 = .ok (.iconst 0, 1) := by decide +kernel
theorem dX5_isTermOrNone_30 : decode cX5_isTermOrNone 30 = .ok (.ireturn, 1) := by decide +kernel
theorem dX5_isFormulaOrNone_0 : decode cX5_isFormulaOrNone 0 = .ok (.iload_n 2, 1) := by decide +kernel
theorem dX5_isFormulaOrNone_1 : decode cX5_isFormulaOrNone 1 = .ok (.ifCond .eq 19, 3) := by decide +kernel
theorem dX5_isFormulaOrNone_4 : decode cX5_isFormulaOrNone 4 = .ok (.aload_n 0, 1) := by decide +kernel
theorem dX5_isFormulaOrNone_5 : decode cX5_isFormulaOrNone 5 = .ok (.iload_n 1, 1) := by decide +kernel
theorem dX5_isFormulaOrNone_6 : decode cX5_isFormulaOrNone 6 = .ok (.invokevirtual 67, 3) := by decide +kernel
theorem dX5_isFormulaOrNone_9 : decode cX5_isFormulaOrNone 9 = .ok (.ifnull 7, 3) := by decide +kernel
theorem dX5_isFormulaOrNone_12 : decode cX5_isFormulaOrNone 12 = .ok (.iconst 1, 1) := by decide +kernel
theorem dX5_isFormulaOrNone_13 : decode cX5_isFormulaOrNone 13 = .ok (.goto 17, 3) := by decide +kernel
theorem dX5_isFormulaOrNone_16 : decode cX5_isFormulaOrNone 16 = .ok (.iconst 0, 1) := by decide +kernel
theorem dX5_isFormulaOrNone_17 : decode cX5_isFormulaOrNone 17 = .ok (.goto 13, 3) := by decide +kernel
theorem dX5_isFormulaOrNone_20 : decode cX5_isFormulaOrNone 20 = .ok (.iload_n 1, 1) := by decide +kernel
theorem dX5_isFormulaOrNone_21 : decode cX5_isFormulaOrNone 21 = .ok (.iconst (-1), 1) := by decide +kernel
theorem dX5_isFormulaOrNone_22 : decode cX5_isFormulaOrNone 22 = .ok (.if_icmp .ne 7, 3) := by decide +kernel
theorem dX5_isFormulaOrNone_25 : decode cX5_isFormulaOrNone 25 = .ok (.iconst 1, 1) := by decide +kernel
theorem dX5_isFormulaOrNone_26 : decode cX5_isFormulaOrNone 26 = .ok (.goto 4, 3) := by decide +kernel
theorem dX5_isFormulaOrNone_29 : decode cX5_isFormulaOrNone 29 = .ok (.iconst 0, 1) := by decide +kernel
theorem dX5_isFormulaOrNone_30 : decode cX5_isFormulaOrNone 30 = .ok (.ireturn, 1) := by decide +kernel
