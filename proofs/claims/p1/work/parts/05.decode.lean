theorem dX1_of_0 : decode cX1_of 0 = .ok (.iload_n 1, 1) := by decide +kernel
theorem dX1_of_1 : decode cX1_of 1 = .ok (.iconst 4, 1) := by decide +kernel
theorem dX1_of_2 : decode cX1_of 2 = .ok (.ishl, 1) := by decide +kernel
theorem dX1_of_3 : decode cX1_of 3 = .ok (.iload_n 0, 1) := by decide +kernel
theorem dX1_of_4 : decode cX1_of 4 = .ok (.ior, 1) := by decide +kernel
theorem dX1_of_5 : decode cX1_of 5 = .ok (.ireturn, 1) := by decide +kernel
theorem dX1_kind_0 : decode cX1_kind 0 = .ok (.iload_n 0, 1) := by decide +kernel
theorem dX1_kind_1 : decode cX1_kind 1 = .ok (.bipush 15, 2) := by decide +kernel
theorem dX1_kind_3 : decode cX1_kind 3 = .ok (.iand, 1) := by decide +kernel
theorem dX1_kind_4 : decode cX1_kind 4 = .ok (.ireturn, 1) := by decide +kernel
theorem dX1_value_0 : decode cX1_value 0 = .ok (.iload_n 0, 1) := by decide +kernel
theorem dX1_value_1 : decode cX1_value 1 = .ok (.iconst 4, 1) := by decide +kernel
theorem dX1_value_2 : decode cX1_value 2 = .ok (.ishr, 1) := by decide +kernel
theorem dX1_value_3 : decode cX1_value 3 = .ok (.ireturn, 1) := by decide +kernel
theorem dX5_isPredicate_0 : decode cX5_isPredicate 0 = .ok (.iload_n 1, 1) := by decide +kernel
theorem dX5_isPredicate_1 : decode cX5_isPredicate 1 = .ok (.ifCond .lt 21, 3) := by decide +kernel
theorem dX5_isPredicate_4 : decode cX5_isPredicate 4 = .ok (.iload_n 1, 1) := by decide +kernel
theorem dX5_isPredicate_5 : decode cX5_isPredicate 5 = .ok (.aload_n 0, 1) := by decide +kernel
theorem dX5_isPredicate_6 : decode cX5_isPredicate 6 = .ok (.getfield 58, 3) := by decide +kernel
theorem dX5_isPredicate_9 : decode cX5_isPredicate 9 = .ok (.if_icmp .ge 13, 3) := by decide +kernel
theorem dX5_isPredicate_12 : decode cX5_isPredicate 12 = .ok (.iload_n 1, 1) := by decide +kernel
theorem dX5_isPredicate_13 : decode cX5_isPredicate 13 = .ok (.bipush 30, 2) := by decide +kernel
theorem dX5_isPredicate_15 : decode cX5_isPredicate 15 = .ok (.if_icmp .ge 7, 3) := by decide +kernel
theorem dX5_isPredicate_18 : decode cX5_isPredicate 18 = .ok (.iconst 1, 1) := by decide +kernel
theorem dX5_isPredicate_19 : decode cX5_isPredicate 19 = .ok (.goto 4, 3) := by decide +kernel
theorem dX5_isPredicate_22 : decode cX5_isPredicate 22 = .ok (.iconst 0, 1) := by decide +kernel
theorem dX5_isPredicate_23 : decode cX5_isPredicate 23 = .ok (.ireturn, 1) := by decide +kernel
theorem dX5_formAt_0 : decode cX5_formAt 0 = .ok (.iload_n 1, 1) := by decide +kernel
theorem dX5_formAt_1 : decode cX5_formAt 1 = .ok (.ifCond .lt 27, 3) := by decide +kernel
theorem dX5_formAt_4 : decode cX5_formAt 4 = .ok (.iload_n 1, 1) := by decide +kernel
theorem dX5_formAt_5 : decode cX5_formAt 5 = .ok (.aload_n 0, 1) := by decide +kernel
theorem dX5_formAt_6 : decode cX5_formAt 6 = .ok (.getfield 254, 3) := by decide +kernel
theorem dX5_formAt_9 : decode cX5_formAt 9 = .ok (.if_icmp .ge 19, 3) := by decide +kernel
theorem dX5_formAt_12 : decode cX5_formAt 12 = .ok (.iload_n 1, 1) := by decide +kernel
theorem dX5_formAt_13 : decode cX5_formAt 13 = .ok (.sipush 1000, 3) := by decide +kernel
theorem dX5_formAt_16 : decode cX5_formAt 16 = .ok (.if_icmp .ge 12, 3) := by decide +kernel
theorem dX5_formAt_19 : decode cX5_formAt 19 = .ok (.aload_n 0, 1) := by decide +kernel
theorem dX5_formAt_20 : decode cX5_formAt 20 = .ok (.getfield 11, 3) := by decide +kernel
theorem dX5_formAt_23 : decode cX5_formAt 23 = .ok (.iload_n 1, 1) := by decide +kernel
theorem dX5_formAt_24 : decode cX5_formAt 24 = .ok (.aaload, 1) := by decide +kernel
theorem dX5_formAt_25 : decode cX5_formAt 25 = .ok (.goto 4, 3) := by decide +kernel
theorem dX5_formAt_28 : decode cX5_formAt 28 = .ok (.aconst_null, 1) := by decide +kernel
theorem dX5_formAt_29 : decode cX5_formAt 29 = .ok (.areturn, 1) := by decide +kernel
theorem dX5_wholeAt_0 : decode cX5_wholeAt 0 = .ok (.aload_n 0, 1) := by decide +kernel
theorem dX5_wholeAt_1 : decode cX5_wholeAt 1 = .ok (.iload_n 1, 1) := by decide +kernel
theorem dX5_wholeAt_2 : decode cX5_wholeAt 2 = .ok (.invokevirtual 226, 3) := by decide +kernel
theorem dX5_wholeAt_5 : decode cX5_wholeAt 5 = .ok (.astore_n 2, 1) := by decide +kernel
theorem dX5_wholeAt_6 : decode cX5_wholeAt 6 = .ok (.aload_n 2, 1) := by decide +kernel
theorem dX5_wholeAt_7 : decode cX5_wholeAt 7 = .ok (.ifnull 14, 3) := by decide +kernel
theorem dX5_wholeAt_10 : decode cX5_wholeAt 10 = .ok (.aload_n 2, 1) := by decide +kernel
theorem dX5_wholeAt_11 : decode cX5_wholeAt 11 = .ok (.getfield 265, 3) := by decide +kernel
theorem dX5_wholeAt_14 : decode cX5_wholeAt 14 = .ok (.ifCond .eq 7, 3) := by decide +kernel
theorem dX5_wholeAt_17 : decode cX5_wholeAt 17 = .ok (.aload_n 2, 1) := by decide +kernel
theorem dX5_wholeAt_18 : decode cX5_wholeAt 18 = .ok (.goto 4, 3) := by decide +kernel
theorem dX5_wholeAt_21 : decode cX5_wholeAt 21 = .ok (.aconst_null, 1) := by decide +kernel
theorem dX5_wholeAt_22 : decode cX5_wholeAt 22 = .ok (.areturn, 1) := by decide +kernel
theorem dX5_formulaAt_0 : decode cX5_formulaAt 0 = .ok (.aload_n 0, 1) := by decide +kernel
theorem dX5_formulaAt_1 : decode cX5_formulaAt 1 = .ok (.iload_n 1, 1) := by decide +kernel
theorem dX5_formulaAt_2 : decode cX5_formulaAt 2 = .ok (.invokevirtual 268, 3) := by decide +kernel
theorem dX5_formulaAt_5 : decode cX5_formulaAt 5 = .ok (.astore_n 2, 1) := by decide +kernel
theorem dX5_formulaAt_6 : decode cX5_formulaAt 6 = .ok (.aload_n 2, 1) := by decide +kernel
theorem dX5_formulaAt_7 : decode cX5_formulaAt 7 = .ok (.ifnull 14, 3) := by decide +kernel
theorem dX5_formulaAt_10 : decode cX5_formulaAt 10 = .ok (.aload_n 2, 1) := by decide +kernel
theorem dX5_formulaAt_11 : decode cX5_formulaAt 11 = .ok (.invokevirtual 271, 3) := by decide +kernel
theorem dX5_formulaAt_14 : decode cX5_formulaAt 14 = .ok (.ifCond .ne 7, 3) := by decide +kernel
theorem dX5_formulaAt_17 : decode cX5_formulaAt 17 = .ok (.aload_n 2, 1) := by decide +kernel
theorem dX5_formulaAt_18 : decode cX5_formulaAt 18 = .ok (.goto 4, 3) := by decide +kernel
theorem dX5_formulaAt_21 : decode cX5_formulaAt 21 = .ok (.aconst_null, 1) := by decide +kernel
theorem dX5_formulaAt_22 : decode cX5_formulaAt 22 = .ok (.areturn, 1) := by decide +kernel
theorem dX5_closedAt_0 : decode cX5_closedAt 0 = .ok (.aload_n 0, 1) := by decide +kernel
theorem dX5_closedAt_1 : decode cX5_closedAt 1 = .ok (.iload_n 1, 1) := by decide +kernel
theorem dX5_closedAt_2 : decode cX5_closedAt 2 = .ok (.invokevirtual 67, 3) := by decide +kernel
theorem dX5_closedAt_5 : decode cX5_closedAt 5 = .ok (.astore_n 2, 1) := by decide +kernel
theorem dX5_closedAt_6 : decode cX5_closedAt 6 = .ok (.aload_n 2, 1) := by decide +kernel
theorem dX5_closedAt_7 : decode cX5_closedAt 7 = .ok (.ifnull 14, 3) := by decide +kernel
theorem dX5_closedAt_10 : decode cX5_closedAt 10 = .ok (.aload_n 2, 1) := by decide +kernel
theorem dX5_closedAt_11 : decode cX5_closedAt 11 = .ok (.getfield 75, 3) := by decide +kernel
theorem dX5_closedAt_14 : decode cX5_closedAt 14 = .ok (.ifCond .ne 7, 3) := by decide +kernel
theorem dX5_closedAt_17 : decode cX5_closedAt 17 = .ok (.aload_n 2, 1) := by decide +kernel
theorem dX5_closedAt_18 : decode cX5_closedAt 18 = .ok (.goto 4, 3) := by decide +kernel
theorem dX5_closedAt_21 : decode cX5_closedAt 21 = .ok (.aconst_null, 1) := by decide +kernel
theorem dX5_closedAt_22 : decode cX5_closedAt 22 = .ok (.areturn, 1) := by decide +kernel
theorem dX5_termAt_0 : decode cX5_termAt 0 = .ok (.aload_n 0, 1) := by decide +kernel
theorem dX5_termAt_1 : decode cX5_termAt 1 = .ok (.iload_n 1, 1) := by decide +kernel
theorem dX5_termAt_2 : decode cX5_termAt 2 = .ok (.invokevirtual 268, 3) := by decide +kernel
theorem dX5_termAt_5 : decode cX5_termAt 5 = .ok (.astore_n 2, 1) := by decide +kernel
theorem dX5_termAt_6 : decode cX5_termAt 6 = .ok (.aload_n 2, 1) := by decide +kernel
theorem dX5_termAt_7 : decode cX5_termAt 7 = .ok (.ifnull 14, 3) := by decide +kernel
theorem dX5_termAt_10 : decode cX5_termAt 10 = .ok (.aload_n 2, 1) := by decide +kernel
theorem dX5_termAt_11 : decode cX5_termAt 11 = .ok (.invokevirtual 271, 3) := by decide +kernel
theorem dX5_termAt_14 : decode cX5_termAt 14 = .ok (.ifCond .eq 7, 3) := by decide +kernel
theorem dX5_termAt_17 : decode cX5_termAt 17 = .ok (.aload_n 2, 1) := by decide +kernel
theorem dX5_termAt_18 : decode cX5_termAt 18 = .ok (.goto 4, 3) := by decide +kernel
theorem dX5_termAt_21 : decode cX5_termAt 21 = .ok (.aconst_null, 1) := by decide +kernel
theorem dX5_termAt_22 : decode cX5_termAt 22 = .ok (.areturn, 1) := by decide +kernel
theorem dX5_constantAt_0 : decode cX5_constantAt 0 = .ok (.aload_n 0, 1) := by decide +kernel
theorem dX5_constantAt_1 : decode cX5_constantAt 1 = .ok (.iload_n 1, 1) := by decide +kernel
theorem dX5_constantAt_2 : decode cX5_constantAt 2 = .ok (.invokevirtual 226, 3) := by decide +kernel
theorem dX5_constantAt_5 : decode cX5_constantAt 5 = .ok (.astore_n 2, 1) := by decide +kernel
theorem dX5_constantAt_6 : decode cX5_constantAt 6 = .ok (.aload_n 2, 1) := by decide +kernel
theorem dX5_constantAt_7 : decode cX5_constantAt 7 = .ok (.ifnull 20, 3) := by decide +kernel
theorem dX5_constantAt_10 : decode cX5_constantAt 10 = .ok (.aload_n 2, 1) := by decide +kernel
theorem dX5_constantAt_11 : decode cX5_constantAt 11 = .ok (.invokevirtual 231, 3) := by decide +kernel
theorem dX5_constantAt_14 : decode cX5_constantAt 14 = .ok (.invokestatic 234, 3) := by decide +kernel
theorem dX5_constantAt_17 : decode cX5_constantAt 17 = .ok (.ifCond .ne 10, 3) := by decide +kernel
theorem dX5_constantAt_20 : decode cX5_constantAt 20 = .ok (.aload_n 2, 1) := by decide +kernel
theorem dX5_constantAt_21 : decode cX5_constantAt 21 = .ok (.invokevirtual 231, 3) := by decide +kernel
theorem dX5_constantAt_24 : decode cX5_constantAt 24 = .ok (.goto 4, 3) := by decide +kernel
theorem dX5_constantAt_27 : decode cX5_constantAt 27 = .ok (.iconst (-1), 1) := by decide +kernel
theorem dX5_constantAt_28 : decode cX5_constantAt 28 = .ok (.ireturn, 1) := by decide +kernel
theorem dX5_openBlock_0 : decode cX5_openBlock 0 = .ok (.aload_n 0, 1) := by decide +kernel
theorem dX5_openBlock_1 : decode cX5_openBlock 1 = .ok (.getfield 200, 3) := by decide +kernel
theorem dX5_openBlock_4 : decode cX5_openBlock 4 = .ok (.ifCond .le 26, 3) := by decide +kernel
theorem dX5_openBlock_7 : decode cX5_openBlock 7 = .ok (.aload_n 0, 1) := by decide +kernel
theorem dX5_openBlock_8 : decode cX5_openBlock 8 = .ok (.getfield 200, 3) := by decide +kernel
theorem dX5_openBlock_11 : decode cX5_openBlock 11 = .ok (.bipush 40, 2) := by decide +kernel
theorem dX5_openBlock_13 : decode cX5_openBlock 13 = .ok (.if_icmp .gt 17, 3) := by decide +kernel
theorem dX5_openBlock_16 : decode cX5_openBlock 16 = .ok (.aload_n 0, 1) := by decide +kernel
theorem dX5_openBlock_17 : decode cX5_openBlock 17 = .ok (.getfield 24, 3) := by decide +kernel
theorem dX5_openBlock_20 : decode cX5_openBlock 20 = .ok (.aload_n 0, 1) := by decide +kernel
theorem dX5_openBlock_21 : decode cX5_openBlock 21 = .ok (.getfield 200, 3) := by decide +kernel
theorem dX5_openBlock_24 : decode cX5_openBlock 24 = .ok (.iconst 1, 1) := by decide +kernel
theorem dX5_openBlock_25 : decode cX5_openBlock 25 = .ok (.isub, 1) := by decide +kernel
theorem dX5_openBlock_26 : decode cX5_openBlock 26 = .ok (.aaload, 1) := by decide +kernel
theorem dX5_openBlock_27 : decode cX5_openBlock 27 = .ok (.goto 4, 3) := by decide +kernel
theorem dX5_openBlock_30 : decode cX5_openBlock 30 = .ok (.aconst_null, 1) := by decide +kernel
theorem dX5_openBlock_31 : decode cX5_openBlock 31 = .ok (.areturn, 1) := by decide +kernel
theorem dX5_isTermOrNone_0 : decode cX5_isTermOrNone 0 = .ok (.iload_n 2, 1) := by decide +kernel
theorem dX5_isTermOrNone_1 : decode cX5_isTermOrNone 1 = .ok (.ifCond .eq 19, 3) := by decide +kernel
theorem dX5_isTermOrNone_4 : decode cX5_isTermOrNone 4 = .ok (.aload_n 0, 1) := by decide +kernel
theorem dX5_isTermOrNone_5 : decode cX5_isTermOrNone 5 = .ok (.iload_n 1, 1) := by decide +kernel
theorem dX5_isTermOrNone_6 : decode cX5_isTermOrNone 6 = .ok (.invokevirtual 274, 3) := by decide +kernel
theorem dX5_isTermOrNone_9 : decode cX5_isTermOrNone 9 = .ok (.ifnull 7, 3) := by decide +kernel
theorem dX5_isTermOrNone_12 : decode cX5_isTermOrNone 12 = .ok (.iconst 1, 1) := by decide +kernel
theorem dX5_isTermOrNone_13 : decode cX5_isTermOrNone 13 = .ok (.goto 17, 3) := by decide +kernel
theorem dX5_isTermOrNone_16 : decode cX5_isTermOrNone 16 = .ok (.iconst 0, 1) := by decide +kernel
theorem dX5_isTermOrNone_17 : decode cX5_isTermOrNone 17 = .ok (.goto 13, 3) := by decide +kernel
theorem dX5_isTermOrNone_20 : decode cX5_isTermOrNone 20 = .ok (.iload_n 1, 1) := by decide +kernel
theorem dX5_isTermOrNone_21 : decode cX5_isTermOrNone 21 = .ok (.iconst (-1), 1) := by decide +kernel
theorem dX5_isTermOrNone_22 : decode cX5_isTermOrNone 22 = .ok (.if_icmp .ne 7, 3) := by decide +kernel
theorem dX5_isTermOrNone_25 : decode cX5_isTermOrNone 25 = .ok (.iconst 1, 1) := by decide +kernel
theorem dX5_isTermOrNone_26 : decode cX5_isTermOrNone 26 = .ok (.goto 4, 3) := by decide +kernel
theorem dX5_isTermOrNone_29 : decode cX5_isTermOrNone 29 = .ok (.iconst 0, 1) := by decide +kernel
theorem dX5_isTermOrNone_30 : decode cX5_isTermOrNone 30 = .ok (.ireturn, 1) := by decide +kernel
theorem dX5_isFormulaOrNone_0 : decode cX5_isFormulaOrNone 0 = .ok (.iload_n 2, 1) := by decide +kernel
theorem dX5_isFormulaOrNone_1 : decode cX5_isFormulaOrNone 1 = .ok (.ifCond .eq 19, 3) := by decide +kernel
theorem dX5_isFormulaOrNone_4 : decode cX5_isFormulaOrNone 4 = .ok (.aload_n 0, 1) := by decide +kernel
theorem dX5_isFormulaOrNone_5 : decode cX5_isFormulaOrNone 5 = .ok (.iload_n 1, 1) := by decide +kernel
theorem dX5_isFormulaOrNone_6 : decode cX5_isFormulaOrNone 6 = .ok (.invokevirtual 67, 3) := by decide +kernel
theorem dX5_isFormulaOrNone_9 : decode cX5_isFormulaOrNone 9 = .ok (.ifnull 7, 3) := by decide +kernel
theorem dX5_isFormulaOrNone_12 : decode cX5_isFormulaOrNone 12 = .ok (.iconst 1, 1) := by decide +kernel
theorem dX5_isFormulaOrNone_13 : decode cX5_isFormulaOrNone 13 = .ok (.goto 17, 3) := by decide +kernel
theorem dX5_isFormulaOrNone_16 : decode cX5_isFormulaOrNone 16 = .ok (.iconst 0, 1) := by decide +kernel
theorem dX5_isFormulaOrNone_17 : decode cX5_isFormulaOrNone 17 = .ok (.goto 13, 3) := by decide +kernel
theorem dX5_isFormulaOrNone_20 : decode cX5_isFormulaOrNone 20 = .ok (.iload_n 1, 1) := by decide +kernel
theorem dX5_isFormulaOrNone_21 : decode cX5_isFormulaOrNone 21 = .ok (.iconst (-1), 1) := by decide +kernel
theorem dX5_isFormulaOrNone_22 : decode cX5_isFormulaOrNone 22 = .ok (.if_icmp .ne 7, 3) := by decide +kernel
theorem dX5_isFormulaOrNone_25 : decode cX5_isFormulaOrNone 25 = .ok (.iconst 1, 1) := by decide +kernel
theorem dX5_isFormulaOrNone_26 : decode cX5_isFormulaOrNone 26 = .ok (.goto 4, 3) := by decide +kernel
theorem dX5_isFormulaOrNone_29 : decode cX5_isFormulaOrNone 29 = .ok (.iconst 0, 1) := by decide +kernel
theorem dX5_isFormulaOrNone_30 : decode cX5_isFormulaOrNone 30 = .ok (.ireturn, 1) := by decide +kernel
theorem dX5_predicate_0 : decode cX5_predicate 0 = .ok (.iload_n 1, 1) := by decide +kernel
theorem dX5_predicate_1 : decode cX5_predicate 1 = .ok (.ifCond .lt 8, 3) := by decide +kernel
theorem dX5_predicate_4 : decode cX5_predicate 4 = .ok (.iload_n 1, 1) := by decide +kernel
theorem dX5_predicate_5 : decode cX5_predicate 5 = .ok (.iconst 2, 1) := by decide +kernel
theorem dX5_predicate_6 : decode cX5_predicate 6 = .ok (.if_icmp .le 13, 3) := by decide +kernel
theorem dX5_predicate_9 : decode cX5_predicate 9 = .ok (.new 51, 3) := by decide +kernel
theorem dX5_predicate_12 : decode cX5_predicate 12 = .ok (.dup, 1) := by decide +kernel
theorem dX5_predicate_13 : decode cX5_predicate 13 = .ok (.ldc 53, 2) := by decide +kernel
theorem dX5_predicate_15 : decode cX5_predicate 15 = .ok (.invokespecial 55, 3) := by decide +kernel
theorem dX5_predicate_18 : decode cX5_predicate 18 = .ok (.athrow, 1) := by decide +kernel
theorem dX5_predicate_19 : decode cX5_predicate 19 = .ok (.aload_n 0, 1) := by decide +kernel
theorem dX5_predicate_20 : decode cX5_predicate 20 = .ok (.getfield 58, 3) := by decide +kernel
theorem dX5_predicate_23 : decode cX5_predicate 23 = .ok (.bipush 30, 2) := by decide +kernel
theorem dX5_predicate_25 : decode cX5_predicate 25 = .ok (.if_icmp .lt 13, 3) := by decide +kernel
theorem dX5_predicate_28 : decode cX5_predicate 28 = .ok (.new 62, 3) := by decide +kernel
theorem dX5_predicate_31 : decode cX5_predicate 31 = .ok (.dup, 1) := by decide +kernel
theorem dX5_predicate_32 : decode cX5_predicate 32 = .ok (.ldc 64, 2) := by decide +kernel
theorem dX5_predicate_34 : decode cX5_predicate 34 = .ok (.invokespecial 66, 3) := by decide +kernel
theorem dX5_predicate_37 : decode cX5_predicate 37 = .ok (.athrow, 1) := by decide +kernel
theorem dX5_predicate_38 : decode cX5_predicate 38 = .ok (.aload_n 0, 1) := by decide +kernel
theorem dX5_predicate_39 : decode cX5_predicate 39 = .ok (.getfield 15, 3) := by decide +kernel
theorem dX5_predicate_42 : decode cX5_predicate 42 = .ok (.aload_n 0, 1) := by decide +kernel
theorem dX5_predicate_43 : decode cX5_predicate 43 = .ok (.getfield 58, 3) := by decide +kernel
theorem dX5_predicate_46 : decode cX5_predicate 46 = .ok (.iload_n 1, 1) := by decide +kernel
theorem dX5_predicate_47 : decode cX5_predicate 47 = .ok (.iastore, 1) := by decide +kernel
theorem dX5_predicate_48 : decode cX5_predicate 48 = .ok (.aload_n 0, 1) := by decide +kernel
theorem dX5_predicate_49 : decode cX5_predicate 49 = .ok (.dup, 1) := by decide +kernel
theorem dX5_predicate_50 : decode cX5_predicate 50 = .ok (.getfield 58, 3) := by decide +kernel
theorem dX5_predicate_53 : decode cX5_predicate 53 = .ok (.iconst 1, 1) := by decide +kernel
theorem dX5_predicate_54 : decode cX5_predicate 54 = .ok (.iadd, 1) := by decide +kernel
theorem dX5_predicate_55 : decode cX5_predicate 55 = .ok (.putfield 58, 3) := by decide +kernel
theorem dX5_predicate_58 : decode cX5_predicate 58 = .ok (.aload_n 0, 1) := by decide +kernel
theorem dX5_predicate_59 : decode cX5_predicate 59 = .ok (.getfield 58, 3) := by decide +kernel
theorem dX5_predicate_62 : decode cX5_predicate 62 = .ok (.iconst 1, 1) := by decide +kernel
theorem dX5_predicate_63 : decode cX5_predicate 63 = .ok (.isub, 1) := by decide +kernel
theorem dX5_predicate_64 : decode cX5_predicate 64 = .ok (.ireturn, 1) := by decide +kernel
theorem dX5_define_0 : decode cX5_define 0 = .ok (.aload_n 0, 1) := by decide +kernel
theorem dX5_define_1 : decode cX5_define 1 = .ok (.iload_n 2, 1) := by decide +kernel
theorem dX5_define_2 : decode cX5_define 2 = .ok (.invokevirtual 67, 3) := by decide +kernel
theorem dX5_define_5 : decode cX5_define 5 = .ok (.astore_n 3, 1) := by decide +kernel
theorem dX5_define_6 : decode cX5_define 6 = .ok (.aload_n 0, 1) := by decide +kernel
theorem dX5_define_7 : decode cX5_define 7 = .ok (.iload_n 1, 1) := by decide +kernel
theorem dX5_define_8 : decode cX5_define 8 = .ok (.invokevirtual 71, 3) := by decide +kernel
theorem dX5_define_11 : decode cX5_define 11 = .ok (.ifCond .eq 20, 3) := by decide +kernel
theorem dX5_define_14 : decode cX5_define 14 = .ok (.aload_n 3, 1) := by decide +kernel
theorem dX5_define_15 : decode cX5_define 15 = .ok (.ifnull 16, 3) := by decide +kernel
theorem dX5_define_18 : decode cX5_define 18 = .ok (.aload_n 3, 1) := by decide +kernel
theorem dX5_define_19 : decode cX5_define 19 = .ok (.getfield 75, 3) := by decide +kernel
theorem dX5_define_22 : decode cX5_define 22 = .ok (.aload_n 0, 1) := by decide +kernel
theorem dX5_define_23 : decode cX5_define 23 = .ok (.getfield 15, 3) := by decide +kernel
theorem dX5_define_26 : decode cX5_define 26 = .ok (.iload_n 1, 1) := by decide +kernel
theorem dX5_define_27 : decode cX5_define 27 = .ok (.iaload, 1) := by decide +kernel
theorem dX5_define_28 : decode cX5_define 28 = .ok (.if_icmp .le 13, 3) := by decide +kernel
theorem dX5_define_31 : decode cX5_define 31 = .ok (.new 51, 3) := by decide +kernel
theorem dX5_define_34 : decode cX5_define 34 = .ok (.dup, 1) := by decide +kernel
theorem dX5_define_35 : decode cX5_define 35 = .ok (.ldc 78, 2) := by decide +kernel
theorem dX5_define_37 : decode cX5_define 37 = .ok (.invokespecial 55, 3) := by decide +kernel
theorem dX5_define_40 : decode cX5_define 40 = .ok (.athrow, 1) := by decide +kernel
theorem dX5_define_41 : decode cX5_define 41 = .ok (.aload_n 0, 1) := by decide +kernel
theorem dX5_define_42 : decode cX5_define 42 = .ok (.getfield 19, 3) := by decide +kernel
theorem dX5_define_45 : decode cX5_define 45 = .ok (.iload_n 1, 1) := by decide +kernel
theorem dX5_define_46 : decode cX5_define 46 = .ok (.aaload, 1) := by decide +kernel
theorem dX5_define_47 : decode cX5_define 47 = .ok (.ifnull 7, 3) := by decide +kernel
theorem dX5_define_50 : decode cX5_define 50 = .ok (.iconst 1, 1) := by decide +kernel
theorem dX5_define_51 : decode cX5_define 51 = .ok (.goto 4, 3) := by decide +kernel
theorem dX5_define_54 : decode cX5_define 54 = .ok (.iconst 0, 1) := by decide +kernel
theorem dX5_define_55 : decode cX5_define 55 = .ok (.istore 4, 2) := by decide +kernel
theorem dX5_define_57 : decode cX5_define 57 = .ok (.aload_n 0, 1) := by decide +kernel
theorem dX5_define_58 : decode cX5_define 58 = .ok (.getfield 19, 3) := by decide +kernel
theorem dX5_define_61 : decode cX5_define 61 = .ok (.iload_n 1, 1) := by decide +kernel
theorem dX5_define_62 : decode cX5_define 62 = .ok (.aload_n 3, 1) := by decide +kernel
theorem dX5_define_63 : decode cX5_define 63 = .ok (.aastore, 1) := by decide +kernel
theorem dX5_define_64 : decode cX5_define 64 = .ok (.iload 4, 2) := by decide +kernel
theorem dX5_define_66 : decode cX5_define 66 = .ok (.ireturn, 1) := by decide +kernel
theorem dX5_atom_0 : decode cX5_atom 0 = .ok (.iload_n 1, 1) := by decide +kernel
theorem dX5_atom_1 : decode cX5_atom 1 = .ok (.iconst (-1), 1) := by decide +kernel
theorem dX5_atom_2 : decode cX5_atom 2 = .ok (.if_icmp .eq 21, 3) := by decide +kernel
theorem dX5_atom_5 : decode cX5_atom 5 = .ok (.aload_n 0, 1) := by decide +kernel
theorem dX5_atom_6 : decode cX5_atom 6 = .ok (.iload_n 1, 1) := by decide +kernel
theorem dX5_atom_7 : decode cX5_atom 7 = .ok (.invokevirtual 71, 3) := by decide +kernel
theorem dX5_atom_10 : decode cX5_atom 10 = .ok (.ifCond .ne 13, 3) := by decide +kernel
theorem dX5_atom_13 : decode cX5_atom 13 = .ok (.new 51, 3) := by decide +kernel
theorem dX5_atom_16 : decode cX5_atom 16 = .ok (.dup, 1) := by decide +kernel
theorem dX5_atom_17 : decode cX5_atom 17 = .ok (.ldc 99, 2) := by decide +kernel
theorem dX5_atom_19 : decode cX5_atom 19 = .ok (.invokespecial 55, 3) := by decide +kernel
theorem dX5_atom_22 : decode cX5_atom 22 = .ok (.athrow, 1) := by decide +kernel
theorem dX5_atom_23 : decode cX5_atom 23 = .ok (.iload_n 1, 1) := by decide +kernel
theorem dX5_atom_24 : decode cX5_atom 24 = .ok (.iconst (-1), 1) := by decide +kernel
theorem dX5_atom_25 : decode cX5_atom 25 = .ok (.if_icmp .ne 7, 3) := by decide +kernel
theorem dX5_atom_28 : decode cX5_atom 28 = .ok (.iconst 2, 1) := by decide +kernel
theorem dX5_atom_29 : decode cX5_atom 29 = .ok (.goto 9, 3) := by decide +kernel
theorem dX5_atom_32 : decode cX5_atom 32 = .ok (.aload_n 0, 1) := by decide +kernel
theorem dX5_atom_33 : decode cX5_atom 33 = .ok (.getfield 15, 3) := by decide +kernel
theorem dX5_atom_36 : decode cX5_atom 36 = .ok (.iload_n 1, 1) := by decide +kernel
theorem dX5_atom_37 : decode cX5_atom 37 = .ok (.iaload, 1) := by decide +kernel
theorem dX5_atom_38 : decode cX5_atom 38 = .ok (.istore 4, 2) := by decide +kernel
theorem dX5_atom_40 : decode cX5_atom 40 = .ok (.aload_n 0, 1) := by decide +kernel
theorem dX5_atom_41 : decode cX5_atom 41 = .ok (.iload_n 2, 1) := by decide +kernel
theorem dX5_atom_42 : decode cX5_atom 42 = .ok (.iload 4, 2) := by decide +kernel
theorem dX5_atom_44 : decode cX5_atom 44 = .ok (.ifCond .le 7, 3) := by decide +kernel
theorem dX5_atom_47 : decode cX5_atom 47 = .ok (.iconst 1, 1) := by decide +kernel
theorem dX5_atom_48 : decode cX5_atom 48 = .ok (.goto 4, 3) := by decide +kernel
theorem dX5_atom_51 : decode cX5_atom 51 = .ok (.iconst 0, 1) := by decide +kernel
theorem dX5_atom_52 : decode cX5_atom 52 = .ok (.invokevirtual 101, 3) := by decide +kernel
theorem dX5_atom_55 : decode cX5_atom 55 = .ok (.ifCond .eq 22, 3) := by decide +kernel
theorem dX5_atom_58 : decode cX5_atom 58 = .ok (.aload_n 0, 1) := by decide +kernel
theorem dX5_atom_59 : decode cX5_atom 59 = .ok (.iload_n 3, 1) := by decide +kernel
theorem dX5_atom_60 : decode cX5_atom 60 = .ok (.iload 4, 2) := by decide +kernel
theorem dX5_atom_62 : decode cX5_atom 62 = .ok (.iconst 1, 1) := by decide +kernel
theorem dX5_atom_63 : decode cX5_atom 63 = .ok (.if_icmp .le 7, 3) := by decide +kernel
theorem dX5_atom_66 : decode cX5_atom 66 = .ok (.iconst 1, 1) := by decide +kernel
theorem dX5_atom_67 : decode cX5_atom 67 = .ok (.goto 4, 3) := by decide +kernel
theorem dX5_atom_70 : decode cX5_atom 70 = .ok (.iconst 0, 1) := by decide +kernel
theorem dX5_atom_71 : decode cX5_atom 71 = .ok (.invokevirtual 101, 3) := by decide +kernel
theorem dX5_atom_74 : decode cX5_atom 74 = .ok (.ifCond .ne 13, 3) := by decide +kernel
theorem dX5_atom_77 : decode cX5_atom 77 = .ok (.new 51, 3) := by decide +kernel
theorem dX5_atom_80 : decode cX5_atom 80 = .ok (.dup, 1) := by decide +kernel
theorem dX5_atom_81 : decode cX5_atom 81 = .ok (.ldc 105, 2) := by decide +kernel
theorem dX5_atom_83 : decode cX5_atom 83 = .ok (.invokespecial 55, 3) := by decide +kernel
theorem dX5_atom_86 : decode cX5_atom 86 = .ok (.athrow, 1) := by decide +kernel
theorem dX5_atom_87 : decode cX5_atom 87 = .ok (.aload_n 0, 1) := by decide +kernel
theorem dX5_atom_88 : decode cX5_atom 88 = .ok (.getfield 32, 3) := by decide +kernel
theorem dX5_atom_91 : decode cX5_atom 91 = .ok (.iload_n 1, 1) := by decide +kernel
theorem dX5_atom_92 : decode cX5_atom 92 = .ok (.iconst (-1), 1) := by decide +kernel
theorem dX5_atom_93 : decode cX5_atom 93 = .ok (.if_icmp .ne 7, 3) := by decide +kernel
theorem dX5_atom_96 : decode cX5_atom 96 = .ok (.iconst 4, 1) := by decide +kernel
theorem dX5_atom_97 : decode cX5_atom 97 = .ok (.goto 9, 3) := by decide +kernel
theorem dX5_atom_100 : decode cX5_atom 100 = .ok (.iload_n 1, 1) := by decide +kernel
theorem dX5_atom_101 : decode cX5_atom 101 = .ok (.iload 4, 2) := by decide +kernel
theorem dX5_atom_103 : decode cX5_atom 103 = .ok (.invokestatic 107, 3) := by decide +kernel
theorem dX5_atom_106 : decode cX5_atom 106 = .ok (.invokevirtual 92, 3) := by decide +kernel
theorem dX5_atom_109 : decode cX5_atom 109 = .ok (.aload_n 0, 1) := by decide +kernel
theorem dX5_atom_110 : decode cX5_atom 110 = .ok (.iload_n 2, 1) := by decide +kernel
theorem dX5_atom_111 : decode cX5_atom 111 = .ok (.invokevirtual 110, 3) := by decide +kernel
theorem dX5_atom_114 : decode cX5_atom 114 = .ok (.aload_n 0, 1) := by decide +kernel
theorem dX5_atom_115 : decode cX5_atom 115 = .ok (.iload_n 3, 1) := by decide +kernel
theorem dX5_atom_116 : decode cX5_atom 116 = .ok (.invokevirtual 110, 3) := by decide +kernel
theorem dX5_atom_119 : decode cX5_atom 119 = .ok (.aload_n 0, 1) := by decide +kernel
theorem dX5_atom_120 : decode cX5_atom 120 = .ok (.invokevirtual 96, 3) := by decide +kernel
theorem dX5_atom_123 : decode cX5_atom 123 = .ok (.ireturn, 1) := by decide +kernel
theorem dX5_bind_0 : decode cX5_bind 0 = .ok (.aload_n 0, 1) := by decide +kernel
theorem dX5_bind_1 : decode cX5_bind 1 = .ok (.iload_n 2, 1) := by decide +kernel
theorem dX5_bind_2 : decode cX5_bind 2 = .ok (.invokevirtual 124, 3) := by decide +kernel
theorem dX5_bind_5 : decode cX5_bind 5 = .ok (.istore 4, 2) := by decide +kernel
theorem dX5_bind_7 : decode cX5_bind 7 = .ok (.aload_n 0, 1) := by decide +kernel
theorem dX5_bind_8 : decode cX5_bind 8 = .ok (.iload_n 3, 1) := by decide +kernel
theorem dX5_bind_9 : decode cX5_bind 9 = .ok (.invokevirtual 67, 3) := by decide +kernel
theorem dX5_bind_12 : decode cX5_bind 12 = .ok (.astore 5, 2) := by decide +kernel
theorem dX5_bind_14 : decode cX5_bind 14 = .ok (.iload 4, 2) := by decide +kernel
theorem dX5_bind_16 : decode cX5_bind 16 = .ok (.iconst (-1), 1) := by decide +kernel
theorem dX5_bind_17 : decode cX5_bind 17 = .ok (.if_icmp .eq 8, 3) := by decide +kernel
theorem dX5_bind_20 : decode cX5_bind 20 = .ok (.aload 5, 2) := by decide +kernel
theorem dX5_bind_22 : decode cX5_bind 22 = .ok (.ifnonnull 13, 3) := by decide +kernel
theorem dX5_bind_25 : decode cX5_bind 25 = .ok (.new 51, 3) := by decide +kernel
theorem dX5_bind_28 : decode cX5_bind 28 = .ok (.dup, 1) := by decide +kernel
theorem dX5_bind_29 : decode cX5_bind 29 = .ok (.ldc 128, 2) := by decide +kernel
theorem dX5_bind_31 : decode cX5_bind 31 = .ok (.invokespecial 55, 3) := by decide +kernel
theorem dX5_bind_34 : decode cX5_bind 34 = .ok (.athrow, 1) := by decide +kernel
theorem dX5_bind_35 : decode cX5_bind 35 = .ok (.aload_n 0, 1) := by decide +kernel
theorem dX5_bind_36 : decode cX5_bind 36 = .ok (.getfield 32, 3) := by decide +kernel
theorem dX5_bind_39 : decode cX5_bind 39 = .ok (.aload 5, 2) := by decide +kernel
theorem dX5_bind_41 : decode cX5_bind 41 = .ok (.invokevirtual 130, 3) := by decide +kernel
theorem dX5_bind_44 : decode cX5_bind 44 = .ok (.iload_n 1, 1) := by decide +kernel
theorem dX5_bind_45 : decode cX5_bind 45 = .ok (.ifCond .eq 15, 3) := by decide +kernel
theorem dX5_bind_48 : decode cX5_bind 48 = .ok (.aload_n 0, 1) := by decide +kernel
theorem dX5_bind_49 : decode cX5_bind 49 = .ok (.getfield 32, 3) := by decide +kernel
theorem dX5_bind_52 : decode cX5_bind 52 = .ok (.iload 4, 2) := by decide +kernel
theorem dX5_bind_54 : decode cX5_bind 54 = .ok (.invokevirtual 134, 3) := by decide +kernel
theorem dX5_bind_57 : decode cX5_bind 57 = .ok (.goto 12, 3) := by decide +kernel
theorem dX5_bind_60 : decode cX5_bind 60 = .ok (.aload_n 0, 1) := by decide +kernel
theorem dX5_bind_61 : decode cX5_bind 61 = .ok (.getfield 32, 3) := by decide +kernel
theorem dX5_bind_64 : decode cX5_bind 64 = .ok (.iload 4, 2) := by decide +kernel
theorem dX5_bind_66 : decode cX5_bind 66 = .ok (.invokevirtual 137, 3) := by decide +kernel
theorem dX5_bind_69 : decode cX5_bind 69 = .ok (.aload_n 0, 1) := by decide +kernel
theorem dX5_bind_70 : decode cX5_bind 70 = .ok (.invokevirtual 96, 3) := by decide +kernel
theorem dX5_bind_73 : decode cX5_bind 73 = .ok (.ireturn, 1) := by decide +kernel
theorem dX5_proof_0 : decode cX5_proof 0 = .ok (.aload_n 0, 1) := by decide +kernel
theorem dX5_proof_1 : decode cX5_proof 1 = .ok (.iload_n 1, 1) := by decide +kernel
theorem dX5_proof_2 : decode cX5_proof 2 = .ok (.invokevirtual 140, 3) := by decide +kernel
theorem dX5_proof_5 : decode cX5_proof 5 = .ok (.astore_n 2, 1) := by decide +kernel
theorem dX5_proof_6 : decode cX5_proof 6 = .ok (.aload_n 2, 1) := by decide +kernel
theorem dX5_proof_7 : decode cX5_proof 7 = .ok (.ifnonnull 13, 3) := by decide +kernel
theorem dX5_proof_10 : decode cX5_proof 10 = .ok (.new 51, 3) := by decide +kernel
theorem dX5_proof_13 : decode cX5_proof 13 = .ok (.dup, 1) := by decide +kernel
theorem dX5_proof_14 : decode cX5_proof 14 = .ok (.ldc 143, 2) := by decide +kernel
theorem dX5_proof_16 : decode cX5_proof 16 = .ok (.invokespecial 55, 3) := by decide +kernel
theorem dX5_proof_19 : decode cX5_proof 19 = .ok (.athrow, 1) := by decide +kernel
theorem dX5_proof_20 : decode cX5_proof 20 = .ok (.aload_n 0, 1) := by decide +kernel
theorem dX5_proof_21 : decode cX5_proof 21 = .ok (.invokevirtual 145, 3) := by decide +kernel
theorem dX5_proof_24 : decode cX5_proof 24 = .ok (.aload_n 0, 1) := by decide +kernel
theorem dX5_proof_25 : decode cX5_proof 25 = .ok (.iconst 0, 1) := by decide +kernel
theorem dX5_proof_26 : decode cX5_proof 26 = .ok (.aload_n 2, 1) := by decide +kernel
theorem dX5_proof_27 : decode cX5_proof 27 = .ok (.invokevirtual 148, 3) := by decide +kernel
theorem dX5_proof_30 : decode cX5_proof 30 = .ok (.ireturn, 1) := by decide +kernel
theorem dX5_assume_0 : decode cX5_assume 0 = .ok (.aload_n 0, 1) := by decide +kernel
theorem dX5_assume_1 : decode cX5_assume 1 = .ok (.iload_n 1, 1) := by decide +kernel
theorem dX5_assume_2 : decode cX5_assume 2 = .ok (.invokevirtual 140, 3) := by decide +kernel
theorem dX5_assume_5 : decode cX5_assume 5 = .ok (.astore_n 2, 1) := by decide +kernel
theorem dX5_assume_6 : decode cX5_assume 6 = .ok (.aload_n 2, 1) := by decide +kernel
theorem dX5_assume_7 : decode cX5_assume 7 = .ok (.ifnonnull 13, 3) := by decide +kernel
theorem dX5_assume_10 : decode cX5_assume 10 = .ok (.new 51, 3) := by decide +kernel
theorem dX5_assume_13 : decode cX5_assume 13 = .ok (.dup, 1) := by decide +kernel
theorem dX5_assume_14 : decode cX5_assume 14 = .ok (.ldc 143, 2) := by decide +kernel
theorem dX5_assume_16 : decode cX5_assume 16 = .ok (.invokespecial 55, 3) := by decide +kernel
theorem dX5_assume_19 : decode cX5_assume 19 = .ok (.athrow, 1) := by decide +kernel
theorem dX5_assume_20 : decode cX5_assume 20 = .ok (.aload_n 0, 1) := by decide +kernel
theorem dX5_assume_21 : decode cX5_assume 21 = .ok (.aload_n 0, 1) := by decide +kernel
theorem dX5_assume_22 : decode cX5_assume 22 = .ok (.invokevirtual 152, 3) := by decide +kernel
theorem dX5_assume_25 : decode cX5_assume 25 = .ok (.iconst 1, 1) := by decide +kernel
theorem dX5_assume_26 : decode cX5_assume 26 = .ok (.iconst (-1), 1) := by decide +kernel
theorem dX5_assume_27 : decode cX5_assume 27 = .ok (.aload_n 2, 1) := by decide +kernel
theorem dX5_assume_28 : decode cX5_assume 28 = .ok (.invokevirtual 156, 3) := by decide +kernel
theorem dX5_assume_31 : decode cX5_assume 31 = .ok (.ireturn, 1) := by decide +kernel
theorem dX5_thus_0 : decode cX5_thus 0 = .ok (.aload_n 0, 1) := by decide +kernel
theorem dX5_thus_1 : decode cX5_thus 1 = .ok (.iload_n 1, 1) := by decide +kernel
theorem dX5_thus_2 : decode cX5_thus 2 = .ok (.invokevirtual 140, 3) := by decide +kernel
theorem dX5_thus_5 : decode cX5_thus 5 = .ok (.astore_n 2, 1) := by decide +kernel
theorem dX5_thus_6 : decode cX5_thus 6 = .ok (.aload_n 2, 1) := by decide +kernel
theorem dX5_thus_7 : decode cX5_thus 7 = .ok (.ifnonnull 13, 3) := by decide +kernel
theorem dX5_thus_10 : decode cX5_thus 10 = .ok (.new 51, 3) := by decide +kernel
theorem dX5_thus_13 : decode cX5_thus 13 = .ok (.dup, 1) := by decide +kernel
theorem dX5_thus_14 : decode cX5_thus 14 = .ok (.ldc 143, 2) := by decide +kernel
theorem dX5_thus_16 : decode cX5_thus 16 = .ok (.invokespecial 55, 3) := by decide +kernel
theorem dX5_thus_19 : decode cX5_thus 19 = .ok (.athrow, 1) := by decide +kernel
theorem dX5_thus_20 : decode cX5_thus 20 = .ok (.aload_n 0, 1) := by decide +kernel
theorem dX5_thus_21 : decode cX5_thus 21 = .ok (.aload_n 0, 1) := by decide +kernel
theorem dX5_thus_22 : decode cX5_thus 22 = .ok (.invokevirtual 152, 3) := by decide +kernel
theorem dX5_thus_25 : decode cX5_thus 25 = .ok (.iconst 2, 1) := by decide +kernel
theorem dX5_thus_26 : decode cX5_thus 26 = .ok (.iconst (-1), 1) := by decide +kernel
theorem dX5_thus_27 : decode cX5_thus 27 = .ok (.aload_n 2, 1) := by decide +kernel
theorem dX5_thus_28 : decode cX5_thus 28 = .ok (.invokevirtual 156, 3) := by decide +kernel
theorem dX5_thus_31 : decode cX5_thus 31 = .ok (.ireturn, 1) := by decide +kernel
theorem dX5_take_0 : decode cX5_take 0 = .ok (.aload_n 0, 1) := by decide +kernel
theorem dX5_take_1 : decode cX5_take 1 = .ok (.iload_n 1, 1) := by decide +kernel
theorem dX5_take_2 : decode cX5_take 2 = .ok (.invokevirtual 124, 3) := by decide +kernel
theorem dX5_take_5 : decode cX5_take 5 = .ok (.istore_n 2, 1) := by decide +kernel
theorem dX5_take_6 : decode cX5_take 6 = .ok (.iload_n 2, 1) := by decide +kernel
theorem dX5_take_7 : decode cX5_take 7 = .ok (.iconst (-1), 1) := by decide +kernel
theorem dX5_take_8 : decode cX5_take 8 = .ok (.if_icmp .ne 13, 3) := by decide +kernel
theorem dX5_take_11 : decode cX5_take 11 = .ok (.new 51, 3) := by decide +kernel
theorem dX5_take_14 : decode cX5_take 14 = .ok (.dup, 1) := by decide +kernel
theorem dX5_take_15 : decode cX5_take 15 = .ok (.ldc 160, 2) := by decide +kernel
theorem dX5_take_17 : decode cX5_take 17 = .ok (.invokespecial 55, 3) := by decide +kernel
theorem dX5_take_20 : decode cX5_take 20 = .ok (.athrow, 1) := by decide +kernel
theorem dX5_take_21 : decode cX5_take 21 = .ok (.aload_n 0, 1) := by decide +kernel
theorem dX5_take_22 : decode cX5_take 22 = .ok (.invokevirtual 152, 3) := by decide +kernel
theorem dX5_take_25 : decode cX5_take 25 = .ok (.astore_n 3, 1) := by decide +kernel
theorem dX5_take_26 : decode cX5_take 26 = .ok (.aload_n 3, 1) := by decide +kernel
theorem dX5_take_27 : decode cX5_take 27 = .ok (.getfield 162, 3) := by decide +kernel
theorem dX5_take_30 : decode cX5_take 30 = .ok (.iconst 1, 1) := by decide +kernel
theorem dX5_take_31 : decode cX5_take 31 = .ok (.if_icmp .ne 13, 3) := by decide +kernel
theorem dX5_take_34 : decode cX5_take 34 = .ok (.new 62, 3) := by decide +kernel
theorem dX5_take_37 : decode cX5_take 37 = .ok (.dup, 1) := by decide +kernel
theorem dX5_take_38 : decode cX5_take 38 = .ok (.ldc 165, 2) := by decide +kernel
theorem dX5_take_40 : decode cX5_take 40 = .ok (.invokespecial 66, 3) := by decide +kernel
theorem dX5_take_43 : decode cX5_take 43 = .ok (.athrow, 1) := by decide +kernel
theorem dX5_take_44 : decode cX5_take 44 = .ok (.aload_n 0, 1) := by decide +kernel
theorem dX5_take_45 : decode cX5_take 45 = .ok (.aload_n 3, 1) := by decide +kernel
theorem dX5_take_46 : decode cX5_take 46 = .ok (.iconst 3, 1) := by decide +kernel
theorem dX5_take_47 : decode cX5_take 47 = .ok (.iload_n 2, 1) := by decide +kernel
theorem dX5_take_48 : decode cX5_take 48 = .ok (.aconst_null, 1) := by decide +kernel
theorem dX5_take_49 : decode cX5_take 49 = .ok (.invokevirtual 156, 3) := by decide +kernel
theorem dX5_take_52 : decode cX5_take 52 = .ok (.ireturn, 1) := by decide +kernel
theorem dX5_given_0 : decode cX5_given 0 = .ok (.aload_n 0, 1) := by decide +kernel
theorem dX5_given_1 : decode cX5_given 1 = .ok (.iload_n 1, 1) := by decide +kernel
theorem dX5_given_2 : decode cX5_given 2 = .ok (.invokevirtual 124, 3) := by decide +kernel
theorem dX5_given_5 : decode cX5_given 5 = .ok (.istore_n 3, 1) := by decide +kernel
theorem dX5_given_6 : decode cX5_given 6 = .ok (.aload_n 0, 1) := by decide +kernel
theorem dX5_given_7 : decode cX5_given 7 = .ok (.iload_n 2, 1) := by decide +kernel
theorem dX5_given_8 : decode cX5_given 8 = .ok (.invokevirtual 140, 3) := by decide +kernel
theorem dX5_given_11 : decode cX5_given 11 = .ok (.astore 4, 2) := by decide +kernel
theorem dX5_given_13 : decode cX5_given 13 = .ok (.iload_n 3, 1) := by decide +kernel
theorem dX5_given_14 : decode cX5_given 14 = .ok (.iconst (-1), 1) := by decide +kernel
theorem dX5_given_15 : decode cX5_given 15 = .ok (.if_icmp .eq 8, 3) := by decide +kernel
theorem dX5_given_18 : decode cX5_given 18 = .ok (.aload 4, 2) := by decide +kernel
theorem dX5_given_20 : decode cX5_given 20 = .ok (.ifnonnull 13, 3) := by decide +kernel
theorem dX5_given_23 : decode cX5_given 23 = .ok (.new 51, 3) := by decide +kernel
theorem dX5_given_26 : decode cX5_given 26 = .ok (.dup, 1) := by decide +kernel
theorem dX5_given_27 : decode cX5_given 27 = .ok (.ldc 167, 2) := by decide +kernel
theorem dX5_given_29 : decode cX5_given 29 = .ok (.invokespecial 55, 3) := by decide +kernel
theorem dX5_given_32 : decode cX5_given 32 = .ok (.athrow, 1) := by decide +kernel
theorem dX5_given_33 : decode cX5_given 33 = .ok (.aload_n 0, 1) := by decide +kernel
theorem dX5_given_34 : decode cX5_given 34 = .ok (.aload_n 0, 1) := by decide +kernel
theorem dX5_given_35 : decode cX5_given 35 = .ok (.invokevirtual 152, 3) := by decide +kernel
theorem dX5_given_38 : decode cX5_given 38 = .ok (.iconst 4, 1) := by decide +kernel
theorem dX5_given_39 : decode cX5_given 39 = .ok (.iload_n 3, 1) := by decide +kernel
theorem dX5_given_40 : decode cX5_given 40 = .ok (.aload 4, 2) := by decide +kernel
theorem dX5_given_42 : decode cX5_given 42 = .ok (.invokevirtual 156, 3) := by decide +kernel
theorem dX5_given_45 : decode cX5_given 45 = .ok (.ireturn, 1) := by decide +kernel
theorem dX5_suppose_0 : decode cX5_suppose 0 = .ok (.aload_n 0, 1) := by decide +kernel
theorem dX5_suppose_1 : decode cX5_suppose 1 = .ok (.iload_n 1, 1) := by decide +kernel
theorem dX5_suppose_2 : decode cX5_suppose 2 = .ok (.invokevirtual 140, 3) := by decide +kernel
theorem dX5_suppose_5 : decode cX5_suppose 5 = .ok (.astore_n 2, 1) := by decide +kernel
theorem dX5_suppose_6 : decode cX5_suppose 6 = .ok (.aload_n 2, 1) := by decide +kernel
theorem dX5_suppose_7 : decode cX5_suppose 7 = .ok (.ifnonnull 13, 3) := by decide +kernel
theorem dX5_suppose_10 : decode cX5_suppose 10 = .ok (.new 51, 3) := by decide +kernel
theorem dX5_suppose_13 : decode cX5_suppose 13 = .ok (.dup, 1) := by decide +kernel
theorem dX5_suppose_14 : decode cX5_suppose 14 = .ok (.ldc 143, 2) := by decide +kernel
theorem dX5_suppose_16 : decode cX5_suppose 16 = .ok (.invokespecial 55, 3) := by decide +kernel
theorem dX5_suppose_19 : decode cX5_suppose 19 = .ok (.athrow, 1) := by decide +kernel
theorem dX5_suppose_20 : decode cX5_suppose 20 = .ok (.aload_n 0, 1) := by decide +kernel
theorem dX5_suppose_21 : decode cX5_suppose 21 = .ok (.invokevirtual 177, 3) := by decide +kernel
theorem dX5_suppose_24 : decode cX5_suppose 24 = .ok (.astore_n 3, 1) := by decide +kernel
theorem dX5_suppose_25 : decode cX5_suppose 25 = .ok (.aload_n 0, 1) := by decide +kernel
theorem dX5_suppose_26 : decode cX5_suppose 26 = .ok (.invokevirtual 180, 3) := by decide +kernel
theorem dX5_suppose_29 : decode cX5_suppose 29 = .ok (.aload_n 0, 1) := by decide +kernel
theorem dX5_suppose_30 : decode cX5_suppose 30 = .ok (.iconst 2, 1) := by decide +kernel
theorem dX5_suppose_31 : decode cX5_suppose 31 = .ok (.aload_n 3, 1) := by decide +kernel
theorem dX5_suppose_32 : decode cX5_suppose 32 = .ok (.getfield 183, 3) := by decide +kernel
theorem dX5_suppose_35 : decode cX5_suppose 35 = .ok (.invokevirtual 148, 3) := by decide +kernel
theorem dX5_suppose_38 : decode cX5_suppose 38 = .ok (.istore 4, 2) := by decide +kernel
theorem dX5_suppose_40 : decode cX5_suppose 40 = .ok (.aload_n 0, 1) := by decide +kernel
theorem dX5_suppose_41 : decode cX5_suppose 41 = .ok (.aload_n 3, 1) := by decide +kernel
theorem dX5_suppose_42 : decode cX5_suppose 42 = .ok (.iconst 5, 1) := by decide +kernel
theorem dX5_suppose_43 : decode cX5_suppose 43 = .ok (.iconst (-1), 1) := by decide +kernel
theorem dX5_suppose_44 : decode cX5_suppose 44 = .ok (.aload_n 2, 1) := by decide +kernel
theorem dX5_suppose_45 : decode cX5_suppose 45 = .ok (.invokevirtual 186, 3) := by decide +kernel
theorem dX5_suppose_48 : decode cX5_suppose 48 = .ok (.iload 4, 2) := by decide +kernel
theorem dX5_suppose_50 : decode cX5_suppose 50 = .ok (.ireturn, 1) := by decide +kernel
theorem dX5_cases_0 : decode cX5_cases 0 = .ok (.aload_n 0, 1) := by decide +kernel
theorem dX5_cases_1 : decode cX5_cases 1 = .ok (.invokevirtual 169, 3) := by decide +kernel
theorem dX5_cases_4 : decode cX5_cases 4 = .ok (.astore_n 1, 1) := by decide +kernel
theorem dX5_cases_5 : decode cX5_cases 5 = .ok (.aload_n 1, 1) := by decide +kernel
theorem dX5_cases_6 : decode cX5_cases 6 = .ok (.ifnull 18, 3) := by decide +kernel
theorem dX5_cases_9 : decode cX5_cases 9 = .ok (.aload_n 1, 1) := by decide +kernel
theorem dX5_cases_10 : decode cX5_cases 10 = .ok (.getfield 162, 3) := by decide +kernel
theorem dX5_cases_13 : decode cX5_cases 13 = .ok (.iconst 1, 1) := by decide +kernel
theorem dX5_cases_14 : decode cX5_cases 14 = .ok (.if_icmp .eq 10, 3) := by decide +kernel
theorem dX5_cases_17 : decode cX5_cases 17 = .ok (.aload_n 1, 1) := by decide +kernel
theorem dX5_cases_18 : decode cX5_cases 18 = .ok (.getfield 172, 3) := by decide +kernel
theorem dX5_cases_21 : decode cX5_cases 21 = .ok (.ifCond .eq 13, 3) := by decide +kernel
theorem dX5_cases_24 : decode cX5_cases 24 = .ok (.new 62, 3) := by decide +kernel
theorem dX5_cases_27 : decode cX5_cases 27 = .ok (.dup, 1) := by decide +kernel
theorem dX5_cases_28 : decode cX5_cases 28 = .ok (.ldc 175, 2) := by decide +kernel
theorem dX5_cases_30 : decode cX5_cases 30 = .ok (.invokespecial 66, 3) := by decide +kernel
theorem dX5_cases_33 : decode cX5_cases 33 = .ok (.athrow, 1) := by decide +kernel
theorem dX5_cases_34 : decode cX5_cases 34 = .ok (.aload_n 1, 1) := by decide +kernel
theorem dX5_cases_35 : decode cX5_cases 35 = .ok (.iconst 1, 1) := by decide +kernel
theorem dX5_cases_36 : decode cX5_cases 36 = .ok (.putfield 172, 3) := by decide +kernel
theorem dX5_cases_39 : decode cX5_cases 39 = .ok (.return_, 1) := by decide +kernel
theorem dX5_end_0 : decode cX5_end 0 = .ok (.aload_n 0, 1) := by decide +kernel
theorem dX5_end_1 : decode cX5_end 1 = .ok (.invokevirtual 169, 3) := by decide +kernel
theorem dX5_end_4 : decode cX5_end 4 = .ok (.astore_n 1, 1) := by decide +kernel
theorem dX5_end_5 : decode cX5_end 5 = .ok (.aload_n 1, 1) := by decide +kernel
theorem dX5_end_6 : decode cX5_end 6 = .ok (.ifnonnull 13, 3) := by decide +kernel
theorem dX5_end_9 : decode cX5_end 9 = .ok (.new 62, 3) := by decide +kernel
theorem dX5_end_12 : decode cX5_end 12 = .ok (.dup, 1) := by decide +kernel
theorem dX5_end_13 : decode cX5_end 13 = .ok (.ldc 190, 2) := by decide +kernel
theorem dX5_end_15 : decode cX5_end 15 = .ok (.invokespecial 66, 3) := by decide +kernel
theorem dX5_end_18 : decode cX5_end 18 = .ok (.athrow, 1) := by decide +kernel
theorem dX5_end_19 : decode cX5_end 19 = .ok (.aload_n 1, 1) := by decide +kernel
theorem dX5_end_20 : decode cX5_end 20 = .ok (.getfield 162, 3) := by decide +kernel
theorem dX5_end_23 : decode cX5_end 23 = .ok (.iconst 1, 1) := by decide +kernel
theorem dX5_end_24 : decode cX5_end 24 = .ok (.if_icmp .ne 9, 3) := by decide +kernel
theorem dX5_end_27 : decode cX5_end 27 = .ok (.aload_n 0, 1) := by decide +kernel
theorem dX5_end_28 : decode cX5_end 28 = .ok (.aload_n 1, 1) := by decide +kernel
theorem dX5_end_29 : decode cX5_end 29 = .ok (.invokevirtual 192, 3) := by decide +kernel
theorem dX5_end_32 : decode cX5_end 32 = .ok (.ireturn, 1) := by decide +kernel
theorem dX5_end_33 : decode cX5_end 33 = .ok (.aload_n 1, 1) := by decide +kernel
theorem dX5_end_34 : decode cX5_end 34 = .ok (.invokevirtual 196, 3) := by decide +kernel
theorem dX5_end_37 : decode cX5_end 37 = .ok (.istore_n 2, 1) := by decide +kernel
theorem dX5_end_38 : decode cX5_end 38 = .ok (.aload_n 0, 1) := by decide +kernel
theorem dX5_end_39 : decode cX5_end 39 = .ok (.dup, 1) := by decide +kernel
theorem dX5_end_40 : decode cX5_end 40 = .ok (.getfield 200, 3) := by decide +kernel
theorem dX5_end_43 : decode cX5_end 43 = .ok (.iconst 1, 1) := by decide +kernel
theorem dX5_end_44 : decode cX5_end 44 = .ok (.isub, 1) := by decide +kernel
theorem dX5_end_45 : decode cX5_end 45 = .ok (.putfield 200, 3) := by decide +kernel
theorem dX5_end_48 : decode cX5_end 48 = .ok (.aload_n 1, 1) := by decide +kernel
theorem dX5_end_49 : decode cX5_end 49 = .ok (.getfield 162, 3) := by decide +kernel
theorem dX5_end_52 : decode cX5_end 52 = .ok (.iconst 2, 1) := by decide +kernel
theorem dX5_end_53 : decode cX5_end 53 = .ok (.if_icmp .ne 8, 3) := by decide +kernel
theorem dX5_end_56 : decode cX5_end 56 = .ok (.aload_n 0, 1) := by decide +kernel
theorem dX5_end_57 : decode cX5_end 57 = .ok (.iload_n 2, 1) := by decide +kernel
theorem dX5_end_58 : decode cX5_end 58 = .ok (.invokevirtual 203, 3) := by decide +kernel
theorem dX5_end_61 : decode cX5_end 61 = .ok (.iload_n 2, 1) := by decide +kernel
theorem dX5_end_62 : decode cX5_end 62 = .ok (.ifCond .eq 7, 3) := by decide +kernel
theorem dX5_end_65 : decode cX5_end 65 = .ok (.iconst 1, 1) := by decide +kernel
theorem dX5_end_66 : decode cX5_end 66 = .ok (.goto 4, 3) := by decide +kernel
theorem dX5_end_69 : decode cX5_end 69 = .ok (.iconst 0, 1) := by decide +kernel
theorem dX5_end_70 : decode cX5_end 70 = .ok (.ireturn, 1) := by decide +kernel
theorem dX5_thesis_0 : decode cX5_thesis 0 = .ok (.aload_n 0, 1) := by decide +kernel
theorem dX5_thesis_1 : decode cX5_thesis 1 = .ok (.invokevirtual 169, 3) := by decide +kernel
theorem dX5_thesis_4 : decode cX5_thesis 4 = .ok (.astore_n 1, 1) := by decide +kernel
theorem dX5_thesis_5 : decode cX5_thesis 5 = .ok (.aload_n 1, 1) := by decide +kernel
theorem dX5_thesis_6 : decode cX5_thesis 6 = .ok (.ifnonnull 13, 3) := by decide +kernel
theorem dX5_thesis_9 : decode cX5_thesis 9 = .ok (.new 62, 3) := by decide +kernel
theorem dX5_thesis_12 : decode cX5_thesis 12 = .ok (.dup, 1) := by decide +kernel
theorem dX5_thesis_13 : decode cX5_thesis 13 = .ok (.ldc 190, 2) := by decide +kernel
theorem dX5_thesis_15 : decode cX5_thesis 15 = .ok (.invokespecial 66, 3) := by decide +kernel
theorem dX5_thesis_18 : decode cX5_thesis 18 = .ok (.athrow, 1) := by decide +kernel
theorem dX5_thesis_19 : decode cX5_thesis 19 = .ok (.aload_n 0, 1) := by decide +kernel
theorem dX5_thesis_20 : decode cX5_thesis 20 = .ok (.getfield 32, 3) := by decide +kernel
theorem dX5_thesis_23 : decode cX5_thesis 23 = .ok (.aload_n 1, 1) := by decide +kernel
theorem dX5_thesis_24 : decode cX5_thesis 24 = .ok (.getfield 183, 3) := by decide +kernel
theorem dX5_thesis_27 : decode cX5_thesis 27 = .ok (.invokevirtual 130, 3) := by decide +kernel
theorem dX5_thesis_30 : decode cX5_thesis 30 = .ok (.aload_n 0, 1) := by decide +kernel
theorem dX5_thesis_31 : decode cX5_thesis 31 = .ok (.invokevirtual 96, 3) := by decide +kernel
theorem dX5_thesis_34 : decode cX5_thesis 34 = .ok (.ireturn, 1) := by decide +kernel
theorem dX5_blockForStep_0 : decode cX5_blockForStep 0 = .ok (.aload_n 0, 1) := by decide +kernel
theorem dX5_blockForStep_1 : decode cX5_blockForStep 1 = .ok (.invokevirtual 169, 3) := by decide +kernel
theorem dX5_blockForStep_4 : decode cX5_blockForStep 4 = .ok (.astore_n 1, 1) := by decide +kernel
theorem dX5_blockForStep_5 : decode cX5_blockForStep 5 = .ok (.aload_n 1, 1) := by decide +kernel
theorem dX5_blockForStep_6 : decode cX5_blockForStep 6 = .ok (.ifnull 10, 3) := by decide +kernel
theorem dX5_blockForStep_9 : decode cX5_blockForStep 9 = .ok (.aload_n 1, 1) := by decide +kernel
theorem dX5_blockForStep_10 : decode cX5_blockForStep 10 = .ok (.getfield 172, 3) := by decide +kernel
theorem dX5_blockForStep_13 : decode cX5_blockForStep 13 = .ok (.ifCond .eq 14, 3) := by decide +kernel
theorem dX5_blockForStep_16 : decode cX5_blockForStep 16 = .ok (.new 62, 3) := by decide +kernel
theorem dX5_blockForStep_19 : decode cX5_blockForStep 19 = .ok (.dup, 1) := by decide +kernel
theorem dX5_blockForStep_20 : decode cX5_blockForStep 20 = .ok (.ldc_w 326, 3) := by decide +kernel
theorem dX5_blockForStep_23 : decode cX5_blockForStep 23 = .ok (.invokespecial 66, 3) := by decide +kernel
theorem dX5_blockForStep_26 : decode cX5_blockForStep 26 = .ok (.athrow, 1) := by decide +kernel
theorem dX5_blockForStep_27 : decode cX5_blockForStep 27 = .ok (.aload_n 0, 1) := by decide +kernel
theorem dX5_blockForStep_28 : decode cX5_blockForStep 28 = .ok (.invokevirtual 180, 3) := by decide +kernel
theorem dX5_blockForStep_31 : decode cX5_blockForStep 31 = .ok (.aload_n 1, 1) := by decide +kernel
theorem dX5_blockForStep_32 : decode cX5_blockForStep 32 = .ok (.areturn, 1) := by decide +kernel
theorem dX5_waitingBlock_0 : decode cX5_waitingBlock 0 = .ok (.aload_n 0, 1) := by decide +kernel
theorem dX5_waitingBlock_1 : decode cX5_waitingBlock 1 = .ok (.invokevirtual 169, 3) := by decide +kernel
theorem dX5_waitingBlock_4 : decode cX5_waitingBlock 4 = .ok (.astore_n 1, 1) := by decide +kernel
theorem dX5_waitingBlock_5 : decode cX5_waitingBlock 5 = .ok (.aload_n 1, 1) := by decide +kernel
theorem dX5_waitingBlock_6 : decode cX5_waitingBlock 6 = .ok (.ifnull 10, 3) := by decide +kernel
theorem dX5_waitingBlock_9 : decode cX5_waitingBlock 9 = .ok (.aload_n 1, 1) := by decide +kernel
theorem dX5_waitingBlock_10 : decode cX5_waitingBlock 10 = .ok (.getfield 172, 3) := by decide +kernel
theorem dX5_waitingBlock_13 : decode cX5_waitingBlock 13 = .ok (.ifCond .ne 14, 3) := by decide +kernel
theorem dX5_waitingBlock_16 : decode cX5_waitingBlock 16 = .ok (.new 62, 3) := by decide +kernel
theorem dX5_waitingBlock_19 : decode cX5_waitingBlock 19 = .ok (.dup, 1) := by decide +kernel
theorem dX5_waitingBlock_20 : decode cX5_waitingBlock 20 = .ok (.ldc_w 299, 3) := by decide +kernel
theorem dX5_waitingBlock_23 : decode cX5_waitingBlock 23 = .ok (.invokespecial 66, 3) := by decide +kernel
theorem dX5_waitingBlock_26 : decode cX5_waitingBlock 26 = .ok (.athrow, 1) := by decide +kernel
theorem dX5_waitingBlock_27 : decode cX5_waitingBlock 27 = .ok (.aload_n 1, 1) := by decide +kernel
theorem dX5_waitingBlock_28 : decode cX5_waitingBlock 28 = .ok (.areturn, 1) := by decide +kernel
theorem dX5_let_0 : decode cX5_let 0 = .ok (.aload_n 0, 1) := by decide +kernel
theorem dX5_let_1 : decode cX5_let 1 = .ok (.invokevirtual 152, 3) := by decide +kernel
theorem dX5_let_4 : decode cX5_let 4 = .ok (.astore_n 1, 1) := by decide +kernel
theorem dX5_let_5 : decode cX5_let 5 = .ok (.aload_n 0, 1) := by decide +kernel
theorem dX5_let_6 : decode cX5_let 6 = .ok (.invokevirtual 80, 3) := by decide +kernel
theorem dX5_let_9 : decode cX5_let 9 = .ok (.istore_n 2, 1) := by decide +kernel
theorem dX5_let_10 : decode cX5_let 10 = .ok (.aload_n 0, 1) := by decide +kernel
theorem dX5_let_11 : decode cX5_let 11 = .ok (.aload_n 1, 1) := by decide +kernel
theorem dX5_let_12 : decode cX5_let 12 = .ok (.iconst 0, 1) := by decide +kernel
theorem dX5_let_13 : decode cX5_let 13 = .ok (.aload_n 0, 1) := by decide +kernel
theorem dX5_let_14 : decode cX5_let 14 = .ok (.iload_n 2, 1) := by decide +kernel
theorem dX5_let_15 : decode cX5_let 15 = .ok (.invokevirtual 124, 3) := by decide +kernel
theorem dX5_let_18 : decode cX5_let 18 = .ok (.aconst_null, 1) := by decide +kernel
theorem dX5_let_19 : decode cX5_let 19 = .ok (.invokevirtual 156, 3) := by decide +kernel
theorem dX5_let_22 : decode cX5_let 22 = .ok (.pop, 1) := by decide +kernel
theorem dX5_let_23 : decode cX5_let 23 = .ok (.iload_n 2, 1) := by decide +kernel
theorem dX5_let_24 : decode cX5_let 24 = .ok (.ireturn, 1) := by decide +kernel
theorem dX5_ways_0 : decode cX5_ways 0 = .ok (.aload_n 0, 1) := by decide +kernel
theorem dX5_ways_1 : decode cX5_ways 1 = .ok (.invokevirtual 177, 3) := by decide +kernel
theorem dX5_ways_4 : decode cX5_ways 4 = .ok (.astore_n 1, 1) := by decide +kernel
theorem dX5_ways_5 : decode cX5_ways 5 = .ok (.aload_n 0, 1) := by decide +kernel
theorem dX5_ways_6 : decode cX5_ways 6 = .ok (.getfield 32, 3) := by decide +kernel
theorem dX5_ways_9 : decode cX5_ways 9 = .ok (.iconst 3, 1) := by decide +kernel
theorem dX5_ways_10 : decode cX5_ways 10 = .ok (.invokevirtual 92, 3) := by decide +kernel
theorem dX5_ways_13 : decode cX5_ways 13 = .ok (.aload_n 1, 1) := by decide +kernel
theorem dX5_ways_14 : decode cX5_ways 14 = .ok (.getfield 207, 3) := by decide +kernel
theorem dX5_ways_17 : decode cX5_ways 17 = .ok (.astore_n 2, 1) := by decide +kernel
theorem dX5_ways_18 : decode cX5_ways 18 = .ok (.aload_n 2, 1) := by decide +kernel
theorem dX5_ways_19 : decode cX5_ways 19 = .ok (.ifnull 40, 3) := by decide +kernel
theorem dX5_ways_22 : decode cX5_ways 22 = .ok (.aload_n 0, 1) := by decide +kernel
theorem dX5_ways_23 : decode cX5_ways 23 = .ok (.getfield 36, 3) := by decide +kernel
theorem dX5_ways_26 : decode cX5_ways 26 = .ok (.aload_n 2, 1) := by decide +kernel
theorem dX5_ways_27 : decode cX5_ways 27 = .ok (.getfield 211, 3) := by decide +kernel
theorem dX5_ways_30 : decode cX5_ways 30 = .ok (.invokevirtual 130, 3) := by decide +kernel
theorem dX5_ways_33 : decode cX5_ways 33 = .ok (.aload_n 0, 1) := by decide +kernel
theorem dX5_ways_34 : decode cX5_ways 34 = .ok (.getfield 36, 3) := by decide +kernel
theorem dX5_ways_37 : decode cX5_ways 37 = .ok (.invokevirtual 216, 3) := by decide +kernel
theorem dX5_ways_40 : decode cX5_ways 40 = .ok (.aload_n 0, 1) := by decide +kernel
theorem dX5_ways_41 : decode cX5_ways 41 = .ok (.getfield 32, 3) := by decide +kernel
theorem dX5_ways_44 : decode cX5_ways 44 = .ok (.aload_n 0, 1) := by decide +kernel
theorem dX5_ways_45 : decode cX5_ways 45 = .ok (.getfield 36, 3) := by decide +kernel
theorem dX5_ways_48 : decode cX5_ways 48 = .ok (.invokevirtual 219, 3) := by decide +kernel
theorem dX5_ways_51 : decode cX5_ways 51 = .ok (.aload_n 2, 1) := by decide +kernel
theorem dX5_ways_52 : decode cX5_ways 52 = .ok (.getfield 223, 3) := by decide +kernel
theorem dX5_ways_55 : decode cX5_ways 55 = .ok (.astore_n 2, 1) := by decide +kernel
theorem dX5_ways_56 : decode cX5_ways 56 = .ok (.goto (-38), 3) := by decide +kernel
theorem dX5_ways_59 : decode cX5_ways 59 = .ok (.aload_n 0, 1) := by decide +kernel
theorem dX5_ways_60 : decode cX5_ways 60 = .ok (.getfield 32, 3) := by decide +kernel
theorem dX5_ways_63 : decode cX5_ways 63 = .ok (.invokevirtual 216, 3) := by decide +kernel
theorem dX5_ways_66 : decode cX5_ways 66 = .ok (.aload_n 0, 1) := by decide +kernel
theorem dX5_ways_67 : decode cX5_ways 67 = .ok (.invokevirtual 96, 3) := by decide +kernel
theorem dX5_ways_70 : decode cX5_ways 70 = .ok (.ireturn, 1) := by decide +kernel
theorem dX5_about_0 : decode cX5_about 0 = .ok (.aload_n 0, 1) := by decide +kernel
theorem dX5_about_1 : decode cX5_about 1 = .ok (.iload_n 1, 1) := by decide +kernel
theorem dX5_about_2 : decode cX5_about 2 = .ok (.invokevirtual 226, 3) := by decide +kernel
theorem dX5_about_5 : decode cX5_about 5 = .ok (.astore_n 3, 1) := by decide +kernel
theorem dX5_about_6 : decode cX5_about 6 = .ok (.aload_n 3, 1) := by decide +kernel
theorem dX5_about_7 : decode cX5_about 7 = .ok (.ifnonnull 13, 3) := by decide +kernel
theorem dX5_about_10 : decode cX5_about 10 = .ok (.new 51, 3) := by decide +kernel
theorem dX5_about_13 : decode cX5_about 13 = .ok (.dup, 1) := by decide +kernel
theorem dX5_about_14 : decode cX5_about 14 = .ok (.ldc 229, 2) := by decide +kernel
theorem dX5_about_16 : decode cX5_about 16 = .ok (.invokespecial 55, 3) := by decide +kernel
theorem dX5_about_19 : decode cX5_about 19 = .ok (.athrow, 1) := by decide +kernel
theorem dX5_about_20 : decode cX5_about 20 = .ok (.iload_n 2, 1) := by decide +kernel
theorem dX5_about_21 : decode cX5_about 21 = .ok (.tableswitch 61 0 3 #[31, 39, 47, 53], 31) := by decide +kernel
theorem dX5_about_52 : decode cX5_about 52 = .ok (.aload_n 3, 1) := by decide +kernel
theorem dX5_about_53 : decode cX5_about 53 = .ok (.invokevirtual 231, 3) := by decide +kernel
theorem dX5_about_56 : decode cX5_about 56 = .ok (.invokestatic 234, 3) := by decide +kernel
theorem dX5_about_59 : decode cX5_about 59 = .ok (.ireturn, 1) := by decide +kernel
theorem dX5_about_60 : decode cX5_about 60 = .ok (.aload_n 3, 1) := by decide +kernel
theorem dX5_about_61 : decode cX5_about 61 = .ok (.invokevirtual 231, 3) := by decide +kernel
theorem dX5_about_64 : decode cX5_about 64 = .ok (.invokestatic 236, 3) := by decide +kernel
theorem dX5_about_67 : decode cX5_about 67 = .ok (.ireturn, 1) := by decide +kernel
theorem dX5_about_68 : decode cX5_about 68 = .ok (.aload_n 3, 1) := by decide +kernel
theorem dX5_about_69 : decode cX5_about 69 = .ok (.getfield 239, 3) := by decide +kernel
theorem dX5_about_72 : decode cX5_about 72 = .ok (.arraylength, 1) := by decide +kernel
theorem dX5_about_73 : decode cX5_about 73 = .ok (.ireturn, 1) := by decide +kernel
theorem dX5_about_74 : decode cX5_about 74 = .ok (.aload_n 3, 1) := by decide +kernel
theorem dX5_about_75 : decode cX5_about 75 = .ok (.invokevirtual 231, 3) := by decide +kernel
theorem dX5_about_78 : decode cX5_about 78 = .ok (.invokestatic 242, 3) := by decide +kernel
theorem dX5_about_81 : decode cX5_about 81 = .ok (.ireturn, 1) := by decide +kernel
theorem dX5_about_82 : decode cX5_about 82 = .ok (.iconst (-1), 1) := by decide +kernel
theorem dX5_about_83 : decode cX5_about 83 = .ok (.ireturn, 1) := by decide +kernel
theorem dX5_part_0 : decode cX5_part 0 = .ok (.aload_n 0, 1) := by decide +kernel
theorem dX5_part_1 : decode cX5_part 1 = .ok (.iload_n 1, 1) := by decide +kernel
theorem dX5_part_2 : decode cX5_part 2 = .ok (.invokevirtual 226, 3) := by decide +kernel
theorem dX5_part_5 : decode cX5_part 5 = .ok (.astore_n 3, 1) := by decide +kernel
theorem dX5_part_6 : decode cX5_part 6 = .ok (.aload_n 3, 1) := by decide +kernel
theorem dX5_part_7 : decode cX5_part 7 = .ok (.ifnull 18, 3) := by decide +kernel
theorem dX5_part_10 : decode cX5_part 10 = .ok (.iload_n 2, 1) := by decide +kernel
theorem dX5_part_11 : decode cX5_part 11 = .ok (.ifCond .lt 14, 3) := by decide +kernel
theorem dX5_part_14 : decode cX5_part 14 = .ok (.iload_n 2, 1) := by decide +kernel
theorem dX5_part_15 : decode cX5_part 15 = .ok (.aload_n 3, 1) := by decide +kernel
theorem dX5_part_16 : decode cX5_part 16 = .ok (.invokevirtual 231, 3) := by decide +kernel
theorem dX5_part_19 : decode cX5_part 19 = .ok (.invokestatic 236, 3) := by decide +kernel
theorem dX5_part_22 : decode cX5_part 22 = .ok (.if_icmp .lt 13, 3) := by decide +kernel
theorem dX5_part_25 : decode cX5_part 25 = .ok (.new 51, 3) := by decide +kernel
theorem dX5_part_28 : decode cX5_part 28 = .ok (.dup, 1) := by decide +kernel
theorem dX5_part_29 : decode cX5_part 29 = .ok (.ldc 245, 2) := by decide +kernel
theorem dX5_part_31 : decode cX5_part 31 = .ok (.invokespecial 55, 3) := by decide +kernel
theorem dX5_part_34 : decode cX5_part 34 = .ok (.athrow, 1) := by decide +kernel
theorem dX5_part_35 : decode cX5_part 35 = .ok (.aload_n 0, 1) := by decide +kernel
theorem dX5_part_36 : decode cX5_part 36 = .ok (.getfield 32, 3) := by decide +kernel
theorem dX5_part_39 : decode cX5_part 39 = .ok (.aload_n 3, 1) := by decide +kernel
theorem dX5_part_40 : decode cX5_part 40 = .ok (.invokevirtual 130, 3) := by decide +kernel
theorem dX5_part_43 : decode cX5_part 43 = .ok (.aload_n 0, 1) := by decide +kernel
theorem dX5_part_44 : decode cX5_part 44 = .ok (.getfield 32, 3) := by decide +kernel
theorem dX5_part_47 : decode cX5_part 47 = .ok (.iload_n 2, 1) := by decide +kernel
theorem dX5_part_48 : decode cX5_part 48 = .ok (.invokevirtual 247, 3) := by decide +kernel
theorem dX5_part_51 : decode cX5_part 51 = .ok (.aload_n 0, 1) := by decide +kernel
theorem dX5_part_52 : decode cX5_part 52 = .ok (.invokevirtual 96, 3) := by decide +kernel
theorem dX5_part_55 : decode cX5_part 55 = .ok (.ireturn, 1) := by decide +kernel
theorem dX5_alike_0 : decode cX5_alike 0 = .ok (.aload_n 0, 1) := by decide +kernel
theorem dX5_alike_1 : decode cX5_alike 1 = .ok (.iload_n 1, 1) := by decide +kernel
theorem dX5_alike_2 : decode cX5_alike 2 = .ok (.invokevirtual 226, 3) := by decide +kernel
theorem dX5_alike_5 : decode cX5_alike 5 = .ok (.astore_n 3, 1) := by decide +kernel
theorem dX5_alike_6 : decode cX5_alike 6 = .ok (.aload_n 0, 1) := by decide +kernel
theorem dX5_alike_7 : decode cX5_alike 7 = .ok (.iload_n 2, 1) := by decide +kernel
theorem dX5_alike_8 : decode cX5_alike 8 = .ok (.invokevirtual 226, 3) := by decide +kernel
theorem dX5_alike_11 : decode cX5_alike 11 = .ok (.astore 4, 2) := by decide +kernel
theorem dX5_alike_13 : decode cX5_alike 13 = .ok (.aload_n 3, 1) := by decide +kernel
theorem dX5_alike_14 : decode cX5_alike 14 = .ok (.ifnull 8, 3) := by decide +kernel
theorem dX5_alike_17 : decode cX5_alike 17 = .ok (.aload 4, 2) := by decide +kernel
theorem dX5_alike_19 : decode cX5_alike 19 = .ok (.ifnonnull 13, 3) := by decide +kernel
theorem dX5_alike_22 : decode cX5_alike 22 = .ok (.new 51, 3) := by decide +kernel
theorem dX5_alike_25 : decode cX5_alike 25 = .ok (.dup, 1) := by decide +kernel
theorem dX5_alike_26 : decode cX5_alike 26 = .ok (.ldc 229, 2) := by decide +kernel
theorem dX5_alike_28 : decode cX5_alike 28 = .ok (.invokespecial 55, 3) := by decide +kernel
theorem dX5_alike_31 : decode cX5_alike 31 = .ok (.athrow, 1) := by decide +kernel
theorem dX5_alike_32 : decode cX5_alike 32 = .ok (.aload_n 0, 1) := by decide +kernel
theorem dX5_alike_33 : decode cX5_alike 33 = .ok (.getfield 32, 3) := by decide +kernel
theorem dX5_alike_36 : decode cX5_alike 36 = .ok (.aload_n 3, 1) := by decide +kernel
theorem dX5_alike_37 : decode cX5_alike 37 = .ok (.invokevirtual 130, 3) := by decide +kernel
theorem dX5_alike_40 : decode cX5_alike 40 = .ok (.aload_n 0, 1) := by decide +kernel
theorem dX5_alike_41 : decode cX5_alike 41 = .ok (.getfield 36, 3) := by decide +kernel
theorem dX5_alike_44 : decode cX5_alike 44 = .ok (.aload 4, 2) := by decide +kernel
theorem dX5_alike_46 : decode cX5_alike 46 = .ok (.invokevirtual 130, 3) := by decide +kernel
theorem dX5_alike_49 : decode cX5_alike 49 = .ok (.aload_n 0, 1) := by decide +kernel
theorem dX5_alike_50 : decode cX5_alike 50 = .ok (.getfield 32, 3) := by decide +kernel
theorem dX5_alike_53 : decode cX5_alike 53 = .ok (.aload_n 0, 1) := by decide +kernel
theorem dX5_alike_54 : decode cX5_alike 54 = .ok (.getfield 36, 3) := by decide +kernel
theorem dX5_alike_57 : decode cX5_alike 57 = .ok (.invokevirtual 250, 3) := by decide +kernel
theorem dX5_alike_60 : decode cX5_alike 60 = .ok (.ireturn, 1) := by decide +kernel
theorem dX5_count_0 : decode cX5_count 0 = .ok (.iload_n 1, 1) := by decide +kernel
theorem dX5_count_1 : decode cX5_count 1 = .ok (.tableswitch 60 0 4 #[35, 40, 45, 50, 55], 35) := by decide +kernel
theorem dX5_count_36 : decode cX5_count 36 = .ok (.aload_n 0, 1) := by decide +kernel
theorem dX5_count_37 : decode cX5_count 37 = .ok (.getfield 254, 3) := by decide +kernel
theorem dX5_count_40 : decode cX5_count 40 = .ok (.ireturn, 1) := by decide +kernel
theorem dX5_count_41 : decode cX5_count 41 = .ok (.aload_n 0, 1) := by decide +kernel
theorem dX5_count_42 : decode cX5_count 42 = .ok (.getfield 58, 3) := by decide +kernel
theorem dX5_count_45 : decode cX5_count 45 = .ok (.ireturn, 1) := by decide +kernel
theorem dX5_count_46 : decode cX5_count 46 = .ok (.aload_n 0, 1) := by decide +kernel
theorem dX5_count_47 : decode cX5_count 47 = .ok (.getfield 200, 3) := by decide +kernel
theorem dX5_count_50 : decode cX5_count 50 = .ok (.ireturn, 1) := by decide +kernel
theorem dX5_count_51 : decode cX5_count 51 = .ok (.aload_n 0, 1) := by decide +kernel
theorem dX5_count_52 : decode cX5_count 52 = .ok (.getfield 257, 3) := by decide +kernel
theorem dX5_count_55 : decode cX5_count 55 = .ok (.ireturn, 1) := by decide +kernel
theorem dX5_count_56 : decode cX5_count 56 = .ok (.aload_n 0, 1) := by decide +kernel
theorem dX5_count_57 : decode cX5_count 57 = .ok (.getfield 260, 3) := by decide +kernel
theorem dX5_count_60 : decode cX5_count 60 = .ok (.ireturn, 1) := by decide +kernel
theorem dX5_count_61 : decode cX5_count 61 = .ok (.new 51, 3) := by decide +kernel
theorem dX5_count_64 : decode cX5_count 64 = .ok (.dup, 1) := by decide +kernel
theorem dX5_count_65 : decode cX5_count 65 = .ok (.ldc_w 263, 3) := by decide +kernel
theorem dX5_count_68 : decode cX5_count 68 = .ok (.invokespecial 55, 3) := by decide +kernel
theorem dX5_count_71 : decode cX5_count 71 = .ok (.athrow, 1) := by decide +kernel
theorem dX5_fit_0 : decode cX5_fit 0 = .ok (.aload_n 0, 1) := by decide +kernel
theorem dX5_fit_1 : decode cX5_fit 1 = .ok (.getfield 47, 3) := by decide +kernel
theorem dX5_fit_4 : decode cX5_fit 4 = .ok (.ireturn, 1) := by decide +kernel
theorem dX4_init_0 : decode cX4_init 0 = .ok (.aload_n 0, 1) := by decide +kernel
theorem dX4_init_1 : decode cX4_init 1 = .ok (.invokespecial 3, 3) := by decide +kernel
theorem dX4_init_4 : decode cX4_init 4 = .ok (.aload_n 0, 1) := by decide +kernel
theorem dX4_init_5 : decode cX4_init 5 = .ok (.sipush 512, 3) := by decide +kernel
theorem dX4_init_8 : decode cX4_init 8 = .ok (.newarray .int, 2) := by decide +kernel
theorem dX4_init_10 : decode cX4_init 10 = .ok (.putfield 11, 3) := by decide +kernel
theorem dX4_init_13 : decode cX4_init 13 = .ok (.aload_n 0, 1) := by decide +kernel
theorem dX4_init_14 : decode cX4_init 14 = .ok (.getfield 11, 3) := by decide +kernel
theorem dX4_init_17 : decode cX4_init 17 = .ok (.iconst 0, 1) := by decide +kernel
theorem dX4_init_18 : decode cX4_init 18 = .ok (.iconst 3, 1) := by decide +kernel
theorem dX4_init_19 : decode cX4_init 19 = .ok (.iastore, 1) := by decide +kernel
theorem dX4_init_20 : decode cX4_init 20 = .ok (.aload_n 0, 1) := by decide +kernel
theorem dX4_init_21 : decode cX4_init 21 = .ok (.iconst 1, 1) := by decide +kernel
theorem dX4_init_22 : decode cX4_init 22 = .ok (.putfield 15, 3) := by decide +kernel
theorem dX4_init_25 : decode cX4_init 25 = .ok (.return_, 1) := by decide +kernel
theorem dX4_setOnly_0 : decode cX4_setOnly 0 = .ok (.aload_n 0, 1) := by decide +kernel
theorem dX4_setOnly_1 : decode cX4_setOnly 1 = .ok (.getfield 11, 3) := by decide +kernel
theorem dX4_setOnly_4 : decode cX4_setOnly 4 = .ok (.iconst 0, 1) := by decide +kernel
theorem dX4_setOnly_5 : decode cX4_setOnly 5 = .ok (.iload_n 1, 1) := by decide +kernel
theorem dX4_setOnly_6 : decode cX4_setOnly 6 = .ok (.iastore, 1) := by decide +kernel
theorem dX4_setOnly_7 : decode cX4_setOnly 7 = .ok (.aload_n 0, 1) := by decide +kernel
theorem dX4_setOnly_8 : decode cX4_setOnly 8 = .ok (.iconst 1, 1) := by decide +kernel
theorem dX4_setOnly_9 : decode cX4_setOnly 9 = .ok (.putfield 15, 3) := by decide +kernel
theorem dX4_setOnly_12 : decode cX4_setOnly 12 = .ok (.aload_n 0, 1) := by decide +kernel
theorem dX4_setOnly_13 : decode cX4_setOnly 13 = .ok (.iconst 0, 1) := by decide +kernel
theorem dX4_setOnly_14 : decode cX4_setOnly 14 = .ok (.putfield 19, 3) := by decide +kernel
theorem dX4_setOnly_17 : decode cX4_setOnly 17 = .ok (.return_, 1) := by decide +kernel
theorem dX4_isTooLarge_0 : decode cX4_isTooLarge 0 = .ok (.aload_n 0, 1) := by decide +kernel
theorem dX4_isTooLarge_1 : decode cX4_isTooLarge 1 = .ok (.getfield 19, 3) := by decide +kernel
theorem dX4_isTooLarge_4 : decode cX4_isTooLarge 4 = .ok (.ifCond .ne 12, 3) := by decide +kernel
theorem dX4_isTooLarge_7 : decode cX4_isTooLarge 7 = .ok (.aload_n 0, 1) := by decide +kernel
theorem dX4_isTooLarge_8 : decode cX4_isTooLarge 8 = .ok (.getfield 15, 3) := by decide +kernel
theorem dX4_isTooLarge_11 : decode cX4_isTooLarge 11 = .ok (.bipush 100, 2) := by decide +kernel
theorem dX4_isTooLarge_13 : decode cX4_isTooLarge 13 = .ok (.if_icmp .le 7, 3) := by decide +kernel
theorem dX4_isTooLarge_16 : decode cX4_isTooLarge 16 = .ok (.iconst 1, 1) := by decide +kernel
theorem dX4_isTooLarge_17 : decode cX4_isTooLarge 17 = .ok (.goto 4, 3) := by decide +kernel
theorem dX4_isTooLarge_20 : decode cX4_isTooLarge 20 = .ok (.iconst 0, 1) := by decide +kernel
theorem dX4_isTooLarge_21 : decode cX4_isTooLarge 21 = .ok (.ireturn, 1) := by decide +kernel
theorem dJ7_copyOf_59c91_0 : decode cJ7_copyOf_59c91 0 = .ok (.iload_n 1, 1) := by decide +kernel
theorem dJ7_copyOf_59c91_1 : decode cJ7_copyOf_59c91 1 = .ok (.aload_n 0, 1) := by decide +kernel
theorem dJ7_copyOf_59c91_2 : decode cJ7_copyOf_59c91 2 = .ok (.arraylength, 1) := by decide +kernel
theorem dJ7_copyOf_59c91_3 : decode cJ7_copyOf_59c91 3 = .ok (.if_icmp .ne 11, 3) := by decide +kernel
theorem dJ7_copyOf_59c91_6 : decode cJ7_copyOf_59c91 6 = .ok (.aload_n 0, 1) := by decide +kernel
theorem dJ7_copyOf_59c91_7 : decode cJ7_copyOf_59c91 7 = .ok (.invokevirtual 316, 3) := by decide +kernel
theorem dJ7_copyOf_59c91_10 : decode cJ7_copyOf_59c91 10 = .ok (.checkcast 317, 3) := by decide +kernel
theorem dJ7_copyOf_59c91_13 : decode cJ7_copyOf_59c91 13 = .ok (.areturn, 1) := by decide +kernel
theorem dJ7_copyOf_59c91_14 : decode cJ7_copyOf_59c91 14 = .ok (.iload_n 1, 1) := by decide +kernel
theorem dJ7_copyOf_59c91_15 : decode cJ7_copyOf_59c91 15 = .ok (.newarray .int, 2) := by decide +kernel
theorem dJ7_copyOf_59c91_17 : decode cJ7_copyOf_59c91 17 = .ok (.astore_n 2, 1) := by decide +kernel
theorem dJ7_copyOf_59c91_18 : decode cJ7_copyOf_59c91 18 = .ok (.aload_n 0, 1) := by decide +kernel
theorem dJ7_copyOf_59c91_19 : decode cJ7_copyOf_59c91 19 = .ok (.iconst 0, 1) := by decide +kernel
theorem dJ7_copyOf_59c91_20 : decode cJ7_copyOf_59c91 20 = .ok (.aload_n 2, 1) := by decide +kernel
theorem dJ7_copyOf_59c91_21 : decode cJ7_copyOf_59c91 21 = .ok (.iconst 0, 1) := by decide +kernel
theorem dJ7_copyOf_59c91_22 : decode cJ7_copyOf_59c91 22 = .ok (.aload_n 0, 1) := by decide +kernel
theorem dJ7_copyOf_59c91_23 : decode cJ7_copyOf_59c91 23 = .ok (.arraylength, 1) := by decide +kernel
theorem dJ7_copyOf_59c91_24 : decode cJ7_copyOf_59c91 24 = .ok (.iload_n 1, 1) := by decide +kernel
theorem dJ7_copyOf_59c91_25 : decode cJ7_copyOf_59c91 25 = .ok (.invokestatic 304, 3) := by decide +kernel
theorem dJ7_copyOf_59c91_28 : decode cJ7_copyOf_59c91 28 = .ok (.invokestatic 150, 3) := by decide +kernel
theorem dJ7_copyOf_59c91_31 : decode cJ7_copyOf_59c91 31 = .ok (.aload_n 2, 1) := by decide +kernel
theorem dJ7_copyOf_59c91_32 : decode cJ7_copyOf_59c91 32 = .ok (.areturn, 1) := by decide +kernel
theorem dX2_init_0 : decode cX2_init 0 = .ok (.aload_n 0, 1) := by decide +kernel
theorem dX2_init_1 : decode cX2_init 1 = .ok (.invokespecial 3, 3) := by decide +kernel
theorem dX2_init_4 : decode cX2_init 4 = .ok (.iconst 0, 1) := by decide +kernel
theorem dX2_init_5 : decode cX2_init 5 = .ok (.istore_n 2, 1) := by decide +kernel
theorem dX2_init_6 : decode cX2_init 6 = .ok (.iconst 0, 1) := by decide +kernel
theorem dX2_init_7 : decode cX2_init 7 = .ok (.istore_n 3, 1) := by decide +kernel
theorem dX2_init_8 : decode cX2_init 8 = .ok (.iconst 0, 1) := by decide +kernel
theorem dX2_init_9 : decode cX2_init 9 = .ok (.istore 4, 2) := by decide +kernel
theorem dX2_init_11 : decode cX2_init 11 = .ok (.iload 4, 2) := by decide +kernel
theorem dX2_init_13 : decode cX2_init 13 = .ok (.aload_n 1, 1) := by decide +kernel
theorem dX2_init_14 : decode cX2_init 14 = .ok (.arraylength, 1) := by decide +kernel
theorem dX2_init_15 : decode cX2_init 15 = .ok (.if_icmp .ge 58, 3) := by decide +kernel
theorem dX2_init_18 : decode cX2_init 18 = .ok (.aload_n 1, 1) := by decide +kernel
theorem dX2_init_19 : decode cX2_init 19 = .ok (.iload 4, 2) := by decide +kernel
theorem dX2_init_21 : decode cX2_init 21 = .ok (.iaload, 1) := by decide +kernel
theorem dX2_init_22 : decode cX2_init 22 = .ok (.invokestatic 9, 3) := by decide +kernel
theorem dX2_init_25 : decode cX2_init 25 = .ok (.istore 5, 2) := by decide +kernel
theorem dX2_init_27 : decode cX2_init 27 = .ok (.aload_n 1, 1) := by decide +kernel
theorem dX2_init_28 : decode cX2_init 28 = .ok (.iload 4, 2) := by decide +kernel
theorem dX2_init_30 : decode cX2_init 30 = .ok (.iaload, 1) := by decide +kernel
theorem dX2_init_31 : decode cX2_init 31 = .ok (.invokestatic 15, 3) := by decide +kernel
theorem dX2_init_34 : decode cX2_init 34 = .ok (.iconst 2, 1) := by decide +kernel
theorem dX2_init_35 : decode cX2_init 35 = .ok (.if_icmp .ne 10, 3) := by decide +kernel
theorem dX2_init_38 : decode cX2_init 38 = .ok (.iload 5, 2) := by decide +kernel
theorem dX2_init_40 : decode cX2_init 40 = .ok (.ifCond .ge 5, 3) := by decide +kernel
theorem dX2_init_43 : decode cX2_init 43 = .ok (.iconst 1, 1) := by decide +kernel
theorem dX2_init_44 : decode cX2_init 44 = .ok (.istore_n 2, 1) := by decide +kernel
theorem dX2_init_45 : decode cX2_init 45 = .ok (.aload_n 1, 1) := by decide +kernel
theorem dX2_init_46 : decode cX2_init 46 = .ok (.iload 4, 2) := by decide +kernel
theorem dX2_init_48 : decode cX2_init 48 = .ok (.iaload, 1) := by decide +kernel
theorem dX2_init_49 : decode cX2_init 49 = .ok (.invokestatic 15, 3) := by decide +kernel
theorem dX2_init_52 : decode cX2_init 52 = .ok (.iconst 1, 1) := by decide +kernel
theorem dX2_init_53 : decode cX2_init 53 = .ok (.if_icmp .ne 14, 3) := by decide +kernel
theorem dX2_init_56 : decode cX2_init 56 = .ok (.iload 5, 2) := by decide +kernel
theorem dX2_init_58 : decode cX2_init 58 = .ok (.iload_n 3, 1) := by decide +kernel
theorem dX2_init_59 : decode cX2_init 59 = .ok (.if_icmp .lt 8, 3) := by decide +kernel
theorem dX2_init_62 : decode cX2_init 62 = .ok (.iload 5, 2) := by decide +kernel
theorem dX2_init_64 : decode cX2_init 64 = .ok (.iconst 1, 1) := by decide +kernel
theorem dX2_init_65 : decode cX2_init 65 = .ok (.iadd, 1) := by decide +kernel
theorem dX2_init_66 : decode cX2_init 66 = .ok (.istore_n 3, 1) := by decide +kernel
theorem dX2_init_67 : decode cX2_init 67 = .ok (.iinc 4 1, 3) := by decide +kernel
theorem dX2_init_70 : decode cX2_init 70 = .ok (.goto (-59), 3) := by decide +kernel
theorem dX2_init_73 : decode cX2_init 73 = .ok (.aload_n 0, 1) := by decide +kernel
theorem dX2_init_74 : decode cX2_init 74 = .ok (.aload_n 1, 1) := by decide +kernel
theorem dX2_init_75 : decode cX2_init 75 = .ok (.putfield 18, 3) := by decide +kernel
theorem dX2_init_78 : decode cX2_init 78 = .ok (.aload_n 0, 1) := by decide +kernel
theorem dX2_init_79 : decode cX2_init 79 = .ok (.iload_n 2, 1) := by decide +kernel
theorem dX2_init_80 : decode cX2_init 80 = .ok (.ifCond .ne 7, 3) := by decide +kernel
theorem dX2_init_83 : decode cX2_init 83 = .ok (.iconst 1, 1) := by decide +kernel
theorem dX2_init_84 : decode cX2_init 84 = .ok (.goto 4, 3) := by decide +kernel
theorem dX2_init_87 : decode cX2_init 87 = .ok (.iconst 0, 1) := by decide +kernel
theorem dX2_init_88 : decode cX2_init 88 = .ok (.putfield 24, 3) := by decide +kernel
theorem dX2_init_91 : decode cX2_init 91 = .ok (.aload_n 0, 1) := by decide +kernel
theorem dX2_init_92 : decode cX2_init 92 = .ok (.iload_n 3, 1) := by decide +kernel
theorem dX2_init_93 : decode cX2_init 93 = .ok (.putfield 28, 3) := by decide +kernel
theorem dX2_init_96 : decode cX2_init 96 = .ok (.return_, 1) := by decide +kernel
theorem dX4_toForm_0 : decode cX4_toForm 0 = .ok (.new 28, 3) := by decide +kernel
theorem dX4_toForm_3 : decode cX4_toForm 3 = .ok (.dup, 1) := by decide +kernel
theorem dX4_toForm_4 : decode cX4_toForm 4 = .ok (.aload_n 0, 1) := by decide +kernel
theorem dX4_toForm_5 : decode cX4_toForm 5 = .ok (.getfield 11, 3) := by decide +kernel
theorem dX4_toForm_8 : decode cX4_toForm 8 = .ok (.aload_n 0, 1) := by decide +kernel
theorem dX4_toForm_9 : decode cX4_toForm 9 = .ok (.getfield 15, 3) := by decide +kernel
theorem dX4_toForm_12 : decode cX4_toForm 12 = .ok (.invokestatic 40, 3) := by decide +kernel
theorem dX4_toForm_15 : decode cX4_toForm 15 = .ok (.invokespecial 46, 3) := by decide +kernel
theorem dX4_toForm_18 : decode cX4_toForm 18 = .ok (.areturn, 1) := by decide +kernel
theorem dX5_keepWork_0 : decode cX5_keepWork 0 = .ok (.aload_n 0, 1) := by decide +kernel
theorem dX5_keepWork_1 : decode cX5_keepWork 1 = .ok (.getfield 254, 3) := by decide +kernel
theorem dX5_keepWork_4 : decode cX5_keepWork 4 = .ok (.sipush 1000, 3) := by decide +kernel
theorem dX5_keepWork_7 : decode cX5_keepWork 7 = .ok (.if_icmp .lt 14, 3) := by decide +kernel
theorem dX5_keepWork_10 : decode cX5_keepWork 10 = .ok (.new 62, 3) := by decide +kernel
theorem dX5_keepWork_13 : decode cX5_keepWork 13 = .ok (.dup, 1) := by decide +kernel
theorem dX5_keepWork_14 : decode cX5_keepWork 14 = .ok (.ldc_w 290, 3) := by decide +kernel
theorem dX5_keepWork_17 : decode cX5_keepWork 17 = .ok (.invokespecial 66, 3) := by decide +kernel
theorem dX5_keepWork_20 : decode cX5_keepWork 20 = .ok (.athrow, 1) := by decide +kernel
theorem dX5_keepWork_21 : decode cX5_keepWork 21 = .ok (.aload_n 0, 1) := by decide +kernel
theorem dX5_keepWork_22 : decode cX5_keepWork 22 = .ok (.getfield 32, 3) := by decide +kernel
theorem dX5_keepWork_25 : decode cX5_keepWork 25 = .ok (.invokevirtual 292, 3) := by decide +kernel
theorem dX5_keepWork_28 : decode cX5_keepWork 28 = .ok (.ifCond .eq 14, 3) := by decide +kernel
theorem dX5_keepWork_31 : decode cX5_keepWork 31 = .ok (.new 62, 3) := by decide +kernel
theorem dX5_keepWork_34 : decode cX5_keepWork 34 = .ok (.dup, 1) := by decide +kernel
theorem dX5_keepWork_35 : decode cX5_keepWork 35 = .ok (.ldc_w 295, 3) := by decide +kernel
theorem dX5_keepWork_38 : decode cX5_keepWork 38 = .ok (.invokespecial 66, 3) := by decide +kernel
theorem dX5_keepWork_41 : decode cX5_keepWork 41 = .ok (.athrow, 1) := by decide +kernel
theorem dX5_keepWork_42 : decode cX5_keepWork 42 = .ok (.aload_n 0, 1) := by decide +kernel
theorem dX5_keepWork_43 : decode cX5_keepWork 43 = .ok (.getfield 11, 3) := by decide +kernel
theorem dX5_keepWork_46 : decode cX5_keepWork 46 = .ok (.aload_n 0, 1) := by decide +kernel
theorem dX5_keepWork_47 : decode cX5_keepWork 47 = .ok (.getfield 254, 3) := by decide +kernel
theorem dX5_keepWork_50 : decode cX5_keepWork 50 = .ok (.aload_n 0, 1) := by decide +kernel
theorem dX5_keepWork_51 : decode cX5_keepWork 51 = .ok (.getfield 32, 3) := by decide +kernel
theorem dX5_keepWork_54 : decode cX5_keepWork 54 = .ok (.invokevirtual 39, 3) := by decide +kernel
theorem dX5_keepWork_57 : decode cX5_keepWork 57 = .ok (.aastore, 1) := by decide +kernel
theorem dX5_keepWork_58 : decode cX5_keepWork 58 = .ok (.aload_n 0, 1) := by decide +kernel
theorem dX5_keepWork_59 : decode cX5_keepWork 59 = .ok (.dup, 1) := by decide +kernel
theorem dX5_keepWork_60 : decode cX5_keepWork 60 = .ok (.getfield 254, 3) := by decide +kernel
theorem dX5_keepWork_63 : decode cX5_keepWork 63 = .ok (.iconst 1, 1) := by decide +kernel
theorem dX5_keepWork_64 : decode cX5_keepWork 64 = .ok (.iadd, 1) := by decide +kernel
theorem dX5_keepWork_65 : decode cX5_keepWork 65 = .ok (.putfield 254, 3) := by decide +kernel
theorem dX5_keepWork_68 : decode cX5_keepWork 68 = .ok (.aload_n 0, 1) := by decide +kernel
theorem dX5_keepWork_69 : decode cX5_keepWork 69 = .ok (.getfield 254, 3) := by decide +kernel
theorem dX5_keepWork_72 : decode cX5_keepWork 72 = .ok (.iconst 1, 1) := by decide +kernel
theorem dX5_keepWork_73 : decode cX5_keepWork 73 = .ok (.isub, 1) := by decide +kernel
theorem dX5_keepWork_74 : decode cX5_keepWork 74 = .ok (.ireturn, 1) := by decide +kernel
theorem dX5_keepNewConstant_0 : decode cX5_keepNewConstant 0 = .ok (.aload_n 0, 1) := by decide +kernel
theorem dX5_keepNewConstant_1 : decode cX5_keepNewConstant 1 = .ok (.getfield 32, 3) := by decide +kernel
theorem dX5_keepNewConstant_4 : decode cX5_keepNewConstant 4 = .ok (.iconst 0, 1) := by decide +kernel
theorem dX5_keepNewConstant_5 : decode cX5_keepNewConstant 5 = .ok (.aload_n 0, 1) := by decide +kernel
theorem dX5_keepNewConstant_6 : decode cX5_keepNewConstant 6 = .ok (.getfield 260, 3) := by decide +kernel
theorem dX5_keepNewConstant_9 : decode cX5_keepNewConstant 9 = .ok (.invokestatic 86, 3) := by decide +kernel
theorem dX5_keepNewConstant_12 : decode cX5_keepNewConstant 12 = .ok (.invokevirtual 92, 3) := by decide +kernel
theorem dX5_keepNewConstant_15 : decode cX5_keepNewConstant 15 = .ok (.aload_n 0, 1) := by decide +kernel
theorem dX5_keepNewConstant_16 : decode cX5_keepNewConstant 16 = .ok (.invokevirtual 96, 3) := by decide +kernel
theorem dX5_keepNewConstant_19 : decode cX5_keepNewConstant 19 = .ok (.istore_n 1, 1) := by decide +kernel
theorem dX5_keepNewConstant_20 : decode cX5_keepNewConstant 20 = .ok (.aload_n 0, 1) := by decide +kernel
theorem dX5_keepNewConstant_21 : decode cX5_keepNewConstant 21 = .ok (.dup, 1) := by decide +kernel
theorem dX5_keepNewConstant_22 : decode cX5_keepNewConstant 22 = .ok (.getfield 260, 3) := by decide +kernel
theorem dX5_keepNewConstant_25 : decode cX5_keepNewConstant 25 = .ok (.iconst 1, 1) := by decide +kernel
theorem dX5_keepNewConstant_26 : decode cX5_keepNewConstant 26 = .ok (.iadd, 1) := by decide +kernel
theorem dX5_keepNewConstant_27 : decode cX5_keepNewConstant 27 = .ok (.putfield 260, 3) := by decide +kernel
theorem dX5_keepNewConstant_30 : decode cX5_keepNewConstant 30 = .ok (.iload_n 1, 1) := by decide +kernel
theorem dX5_keepNewConstant_31 : decode cX5_keepNewConstant 31 = .ok (.ireturn, 1) := by decide +kernel
theorem dX5_constant_0 : decode cX5_constant 0 = .ok (.aload_n 0, 1) := by decide +kernel
theorem dX5_constant_1 : decode cX5_constant 1 = .ok (.invokevirtual 80, 3) := by decide +kernel
theorem dX5_constant_4 : decode cX5_constant 4 = .ok (.ireturn, 1) := by decide +kernel
theorem dX5_locus_0 : decode cX5_locus 0 = .ok (.iload_n 1, 1) := by decide +kernel
theorem dX5_locus_1 : decode cX5_locus 1 = .ok (.ifCond .lt 8, 3) := by decide +kernel
theorem dX5_locus_4 : decode cX5_locus 4 = .ok (.iload_n 1, 1) := by decide +kernel
theorem dX5_locus_5 : decode cX5_locus 5 = .ok (.iconst 2, 1) := by decide +kernel
theorem dX5_locus_6 : decode cX5_locus 6 = .ok (.if_icmp .lt 13, 3) := by decide +kernel
theorem dX5_locus_9 : decode cX5_locus 9 = .ok (.new 51, 3) := by decide +kernel
theorem dX5_locus_12 : decode cX5_locus 12 = .ok (.dup, 1) := by decide +kernel
theorem dX5_locus_13 : decode cX5_locus 13 = .ok (.ldc 84, 2) := by decide +kernel
theorem dX5_locus_15 : decode cX5_locus 15 = .ok (.invokespecial 55, 3) := by decide +kernel
theorem dX5_locus_18 : decode cX5_locus 18 = .ok (.athrow, 1) := by decide +kernel
theorem dX5_locus_19 : decode cX5_locus 19 = .ok (.aload_n 0, 1) := by decide +kernel
theorem dX5_locus_20 : decode cX5_locus 20 = .ok (.getfield 32, 3) := by decide +kernel
theorem dX5_locus_23 : decode cX5_locus 23 = .ok (.iconst 1, 1) := by decide +kernel
theorem dX5_locus_24 : decode cX5_locus 24 = .ok (.iload_n 1, 1) := by decide +kernel
theorem dX5_locus_25 : decode cX5_locus 25 = .ok (.invokestatic 86, 3) := by decide +kernel
theorem dX5_locus_28 : decode cX5_locus 28 = .ok (.invokevirtual 92, 3) := by decide +kernel
theorem dX5_locus_31 : decode cX5_locus 31 = .ok (.aload_n 0, 1) := by decide +kernel
theorem dX5_locus_32 : decode cX5_locus 32 = .ok (.invokevirtual 96, 3) := by decide +kernel
theorem dX5_locus_35 : decode cX5_locus 35 = .ok (.ireturn, 1) := by decide +kernel
theorem dX5_joinIntoWork_0 : decode cX5_joinIntoWork 0 = .ok (.iload_n 1, 1) := by decide +kernel
theorem dX5_joinIntoWork_1 : decode cX5_joinIntoWork 1 = .ok (.tableswitch 167 0 4 #[35, 53, 72, 123, 135], 35) := by decide +kernel
theorem dX5_joinIntoWork_36 : decode cX5_joinIntoWork 36 = .ok (.aload_n 0, 1) := by decide +kernel
theorem dX5_joinIntoWork_37 : decode cX5_joinIntoWork 37 = .ok (.getfield 32, 3) := by decide +kernel
theorem dX5_joinIntoWork_40 : decode cX5_joinIntoWork 40 = .ok (.aload_n 2, 1) := by decide +kernel
theorem dX5_joinIntoWork_41 : decode cX5_joinIntoWork 41 = .ok (.invokevirtual 130, 3) := by decide +kernel
theorem dX5_joinIntoWork_44 : decode cX5_joinIntoWork 44 = .ok (.aload_n 0, 1) := by decide +kernel
theorem dX5_joinIntoWork_45 : decode cX5_joinIntoWork 45 = .ok (.getfield 32, 3) := by decide +kernel
theorem dX5_joinIntoWork_48 : decode cX5_joinIntoWork 48 = .ok (.invokevirtual 216, 3) := by decide +kernel
theorem dX5_joinIntoWork_51 : decode cX5_joinIntoWork 51 = .ok (.goto 125, 3) := by decide +kernel
theorem dX5_joinIntoWork_54 : decode cX5_joinIntoWork 54 = .ok (.aload_n 0, 1) := by decide +kernel
theorem dX5_joinIntoWork_55 : decode cX5_joinIntoWork 55 = .ok (.getfield 32, 3) := by decide +kernel
theorem dX5_joinIntoWork_58 : decode cX5_joinIntoWork 58 = .ok (.aload_n 3, 1) := by decide +kernel
theorem dX5_joinIntoWork_59 : decode cX5_joinIntoWork 59 = .ok (.invokevirtual 130, 3) := by decide +kernel
theorem dX5_joinIntoWork_62 : decode cX5_joinIntoWork 62 = .ok (.aload_n 0, 1) := by decide +kernel
theorem dX5_joinIntoWork_63 : decode cX5_joinIntoWork 63 = .ok (.getfield 32, 3) := by decide +kernel
theorem dX5_joinIntoWork_66 : decode cX5_joinIntoWork 66 = .ok (.aload_n 2, 1) := by decide +kernel
theorem dX5_joinIntoWork_67 : decode cX5_joinIntoWork 67 = .ok (.invokevirtual 280, 3) := by decide +kernel
theorem dX5_joinIntoWork_70 : decode cX5_joinIntoWork 70 = .ok (.goto 106, 3) := by decide +kernel
theorem dX5_joinIntoWork_73 : decode cX5_joinIntoWork 73 = .ok (.aload_n 0, 1) := by decide +kernel
theorem dX5_joinIntoWork_74 : decode cX5_joinIntoWork 74 = .ok (.getfield 36, 3) := by decide +kernel
theorem dX5_joinIntoWork_77 : decode cX5_joinIntoWork 77 = .ok (.aload_n 2, 1) := by decide +kernel
theorem dX5_joinIntoWork_78 : decode cX5_joinIntoWork 78 = .ok (.invokevirtual 130, 3) := by decide +kernel
theorem dX5_joinIntoWork_81 : decode cX5_joinIntoWork 81 = .ok (.aload_n 0, 1) := by decide +kernel
theorem dX5_joinIntoWork_82 : decode cX5_joinIntoWork 82 = .ok (.getfield 36, 3) := by decide +kernel
theorem dX5_joinIntoWork_85 : decode cX5_joinIntoWork 85 = .ok (.invokevirtual 216, 3) := by decide +kernel
theorem dX5_joinIntoWork_88 : decode cX5_joinIntoWork 88 = .ok (.aload_n 0, 1) := by decide +kernel
theorem dX5_joinIntoWork_89 : decode cX5_joinIntoWork 89 = .ok (.getfield 32, 3) := by decide +kernel
theorem dX5_joinIntoWork_92 : decode cX5_joinIntoWork 92 = .ok (.aload_n 3, 1) := by decide +kernel
theorem dX5_joinIntoWork_93 : decode cX5_joinIntoWork 93 = .ok (.invokevirtual 130, 3) := by decide +kernel
theorem dX5_joinIntoWork_96 : decode cX5_joinIntoWork 96 = .ok (.aload_n 0, 1) := by decide +kernel
theorem dX5_joinIntoWork_97 : decode cX5_joinIntoWork 97 = .ok (.getfield 32, 3) := by decide +kernel
theorem dX5_joinIntoWork_100 : decode cX5_joinIntoWork 100 = .ok (.invokevirtual 216, 3) := by decide +kernel
theorem dX5_joinIntoWork_103 : decode cX5_joinIntoWork 103 = .ok (.aload_n 0, 1) := by decide +kernel
theorem dX5_joinIntoWork_104 : decode cX5_joinIntoWork 104 = .ok (.getfield 32, 3) := by decide +kernel
theorem dX5_joinIntoWork_107 : decode cX5_joinIntoWork 107 = .ok (.aload_n 0, 1) := by decide +kernel
theorem dX5_joinIntoWork_108 : decode cX5_joinIntoWork 108 = .ok (.getfield 36, 3) := by decide +kernel
theorem dX5_joinIntoWork_111 : decode cX5_joinIntoWork 111 = .ok (.invokevirtual 219, 3) := by decide +kernel
theorem dX5_joinIntoWork_114 : decode cX5_joinIntoWork 114 = .ok (.aload_n 0, 1) := by decide +kernel
theorem dX5_joinIntoWork_115 : decode cX5_joinIntoWork 115 = .ok (.getfield 32, 3) := by decide +kernel
theorem dX5_joinIntoWork_118 : decode cX5_joinIntoWork 118 = .ok (.invokevirtual 216, 3) := by decide +kernel
theorem dX5_joinIntoWork_121 : decode cX5_joinIntoWork 121 = .ok (.goto 55, 3) := by decide +kernel
theorem dX5_joinIntoWork_124 : decode cX5_joinIntoWork 124 = .ok (.aload_n 0, 1) := by decide +kernel
theorem dX5_joinIntoWork_125 : decode cX5_joinIntoWork 125 = .ok (.getfield 32, 3) := by decide +kernel
theorem dX5_joinIntoWork_128 : decode cX5_joinIntoWork 128 = .ok (.aload_n 2, 1) := by decide +kernel
theorem dX5_joinIntoWork_129 : decode cX5_joinIntoWork 129 = .ok (.aload_n 3, 1) := by decide +kernel
theorem dX5_joinIntoWork_130 : decode cX5_joinIntoWork 130 = .ok (.invokestatic 283, 3) := by decide +kernel
theorem dX5_joinIntoWork_133 : decode cX5_joinIntoWork 133 = .ok (.goto 43, 3) := by decide +kernel
theorem dX5_joinIntoWork_136 : decode cX5_joinIntoWork 136 = .ok (.aload_n 0, 1) := by decide +kernel
theorem dX5_joinIntoWork_137 : decode cX5_joinIntoWork 137 = .ok (.getfield 36, 3) := by decide +kernel
theorem dX5_joinIntoWork_140 : decode cX5_joinIntoWork 140 = .ok (.aload_n 2, 1) := by decide +kernel
theorem dX5_joinIntoWork_141 : decode cX5_joinIntoWork 141 = .ok (.aload_n 3, 1) := by decide +kernel
theorem dX5_joinIntoWork_142 : decode cX5_joinIntoWork 142 = .ok (.invokestatic 283, 3) := by decide +kernel
theorem dX5_joinIntoWork_145 : decode cX5_joinIntoWork 145 = .ok (.aload_n 0, 1) := by decide +kernel
theorem dX5_joinIntoWork_146 : decode cX5_joinIntoWork 146 = .ok (.getfield 32, 3) := by decide +kernel
theorem dX5_joinIntoWork_149 : decode cX5_joinIntoWork 149 = .ok (.aload_n 3, 1) := by decide +kernel
theorem dX5_joinIntoWork_150 : decode cX5_joinIntoWork 150 = .ok (.aload_n 2, 1) := by decide +kernel
theorem dX5_joinIntoWork_151 : decode cX5_joinIntoWork 151 = .ok (.invokestatic 283, 3) := by decide +kernel
theorem dX5_joinIntoWork_154 : decode cX5_joinIntoWork 154 = .ok (.aload_n 0, 1) := by decide +kernel
theorem dX5_joinIntoWork_155 : decode cX5_joinIntoWork 155 = .ok (.getfield 32, 3) := by decide +kernel
theorem dX5_joinIntoWork_158 : decode cX5_joinIntoWork 158 = .ok (.aload_n 0, 1) := by decide +kernel
theorem dX5_joinIntoWork_159 : decode cX5_joinIntoWork 159 = .ok (.getfield 36, 3) := by decide +kernel
theorem dX5_joinIntoWork_162 : decode cX5_joinIntoWork 162 = .ok (.invokevirtual 219, 3) := by decide +kernel
theorem dX5_joinIntoWork_165 : decode cX5_joinIntoWork 165 = .ok (.goto 11, 3) := by decide +kernel
theorem dX5_joinIntoWork_168 : decode cX5_joinIntoWork 168 = .ok (.aload_n 0, 1) := by decide +kernel
theorem dX5_joinIntoWork_169 : decode cX5_joinIntoWork 169 = .ok (.getfield 32, 3) := by decide +kernel
theorem dX5_joinIntoWork_172 : decode cX5_joinIntoWork 172 = .ok (.iconst 3, 1) := by decide +kernel
theorem dX5_joinIntoWork_173 : decode cX5_joinIntoWork 173 = .ok (.invokevirtual 92, 3) := by decide +kernel
theorem dX5_joinIntoWork_176 : decode cX5_joinIntoWork 176 = .ok (.return_, 1) := by decide +kernel
theorem dX5_join_0 : decode cX5_join 0 = .ok (.iload_n 1, 1) := by decide +kernel
theorem dX5_join_1 : decode cX5_join 1 = .ok (.ifCond .lt 8, 3) := by decide +kernel
theorem dX5_join_4 : decode cX5_join 4 = .ok (.iload_n 1, 1) := by decide +kernel
theorem dX5_join_5 : decode cX5_join 5 = .ok (.iconst 5, 1) := by decide +kernel
theorem dX5_join_6 : decode cX5_join 6 = .ok (.if_icmp .le 13, 3) := by decide +kernel
theorem dX5_join_9 : decode cX5_join 9 = .ok (.new 51, 3) := by decide +kernel
theorem dX5_join_12 : decode cX5_join 12 = .ok (.dup, 1) := by decide +kernel
theorem dX5_join_13 : decode cX5_join 13 = .ok (.ldc 113, 2) := by decide +kernel
theorem dX5_join_15 : decode cX5_join 15 = .ok (.invokespecial 55, 3) := by decide +kernel
theorem dX5_join_18 : decode cX5_join 18 = .ok (.athrow, 1) := by decide +kernel
theorem dX5_join_19 : decode cX5_join 19 = .ok (.aload_n 0, 1) := by decide +kernel
theorem dX5_join_20 : decode cX5_join 20 = .ok (.iload_n 2, 1) := by decide +kernel
theorem dX5_join_21 : decode cX5_join 21 = .ok (.iload_n 1, 1) := by decide +kernel
theorem dX5_join_22 : decode cX5_join 22 = .ok (.iconst 5, 1) := by decide +kernel
theorem dX5_join_23 : decode cX5_join 23 = .ok (.if_icmp .eq 7, 3) := by decide +kernel
theorem dX5_join_26 : decode cX5_join 26 = .ok (.iconst 1, 1) := by decide +kernel
theorem dX5_join_27 : decode cX5_join 27 = .ok (.goto 4, 3) := by decide +kernel
theorem dX5_join_30 : decode cX5_join 30 = .ok (.iconst 0, 1) := by decide +kernel
theorem dX5_join_31 : decode cX5_join 31 = .ok (.invokevirtual 115, 3) := by decide +kernel
theorem dX5_join_34 : decode cX5_join 34 = .ok (.ifCond .eq 25, 3) := by decide +kernel
theorem dX5_join_37 : decode cX5_join 37 = .ok (.aload_n 0, 1) := by decide +kernel
theorem dX5_join_38 : decode cX5_join 38 = .ok (.iload_n 3, 1) := by decide +kernel
theorem dX5_join_39 : decode cX5_join 39 = .ok (.iload_n 1, 1) := by decide +kernel
theorem dX5_join_40 : decode cX5_join 40 = .ok (.iconst 5, 1) := by decide +kernel
theorem dX5_join_41 : decode cX5_join 41 = .ok (.if_icmp .eq 11, 3) := by decide +kernel
theorem dX5_join_44 : decode cX5_join 44 = .ok (.iload_n 1, 1) := by decide +kernel
theorem dX5_join_45 : decode cX5_join 45 = .ok (.ifCond .eq 7, 3) := by decide +kernel
theorem dX5_join_48 : decode cX5_join 48 = .ok (.iconst 1, 1) := by decide +kernel
theorem dX5_join_49 : decode cX5_join 49 = .ok (.goto 4, 3) := by decide +kernel
theorem dX5_join_52 : decode cX5_join 52 = .ok (.iconst 0, 1) := by decide +kernel
theorem dX5_join_53 : decode cX5_join 53 = .ok (.invokevirtual 115, 3) := by decide +kernel
theorem dX5_join_56 : decode cX5_join 56 = .ok (.ifCond .ne 13, 3) := by decide +kernel
theorem dX5_join_59 : decode cX5_join 59 = .ok (.new 51, 3) := by decide +kernel
theorem dX5_join_62 : decode cX5_join 62 = .ok (.dup, 1) := by decide +kernel
theorem dX5_join_63 : decode cX5_join 63 = .ok (.ldc 118, 2) := by decide +kernel
theorem dX5_join_65 : decode cX5_join 65 = .ok (.invokespecial 55, 3) := by decide +kernel
theorem dX5_join_68 : decode cX5_join 68 = .ok (.athrow, 1) := by decide +kernel
theorem dX5_join_69 : decode cX5_join 69 = .ok (.aload_n 0, 1) := by decide +kernel
theorem dX5_join_70 : decode cX5_join 70 = .ok (.iload_n 1, 1) := by decide +kernel
theorem dX5_join_71 : decode cX5_join 71 = .ok (.aload_n 0, 1) := by decide +kernel
theorem dX5_join_72 : decode cX5_join 72 = .ok (.iload_n 2, 1) := by decide +kernel
theorem dX5_join_73 : decode cX5_join 73 = .ok (.invokevirtual 67, 3) := by decide +kernel
theorem dX5_join_76 : decode cX5_join 76 = .ok (.aload_n 0, 1) := by decide +kernel
theorem dX5_join_77 : decode cX5_join 77 = .ok (.iload_n 3, 1) := by decide +kernel
theorem dX5_join_78 : decode cX5_join 78 = .ok (.invokevirtual 67, 3) := by decide +kernel
theorem dX5_join_81 : decode cX5_join 81 = .ok (.invokevirtual 120, 3) := by decide +kernel
theorem dX5_join_84 : decode cX5_join 84 = .ok (.aload_n 0, 1) := by decide +kernel
theorem dX5_join_85 : decode cX5_join 85 = .ok (.invokevirtual 96, 3) := by decide +kernel
theorem dX5_join_88 : decode cX5_join 88 = .ok (.ireturn, 1) := by decide +kernel
theorem dX0_begin_0 : decode cX0_begin 0 = .ok (.aload_n 0, 1) := by decide +kernel
theorem dX0_begin_1 : decode cX0_begin 1 = .ok (.iload_n 1, 1) := by decide +kernel
theorem dX0_begin_2 : decode cX0_begin 2 = .ok (.putfield 9, 3) := by decide +kernel
theorem dX0_begin_5 : decode cX0_begin 5 = .ok (.aload_n 0, 1) := by decide +kernel
theorem dX0_begin_6 : decode cX0_begin 6 = .ok (.aload_n 2, 1) := by decide +kernel
theorem dX0_begin_7 : decode cX0_begin 7 = .ok (.putfield 15, 3) := by decide +kernel
theorem dX0_begin_10 : decode cX0_begin 10 = .ok (.aload_n 0, 1) := by decide +kernel
theorem dX0_begin_11 : decode cX0_begin 11 = .ok (.iconst 0, 1) := by decide +kernel
theorem dX0_begin_12 : decode cX0_begin 12 = .ok (.putfield 19, 3) := by decide +kernel
theorem dX0_begin_15 : decode cX0_begin 15 = .ok (.aload_n 0, 1) := by decide +kernel
theorem dX0_begin_16 : decode cX0_begin 16 = .ok (.iconst 0, 1) := by decide +kernel
theorem dX0_begin_17 : decode cX0_begin 17 = .ok (.putfield 23, 3) := by decide +kernel
theorem dX0_begin_20 : decode cX0_begin 20 = .ok (.aload_n 0, 1) := by decide +kernel
theorem dX0_begin_21 : decode cX0_begin 21 = .ok (.aconst_null, 1) := by decide +kernel
theorem dX0_begin_22 : decode cX0_begin 22 = .ok (.putfield 26, 3) := by decide +kernel
theorem dX0_begin_25 : decode cX0_begin 25 = .ok (.return_, 1) := by decide +kernel
theorem dX5_refuseWhileWaiting_0 : decode cX5_refuseWhileWaiting 0 = .ok (.aload_n 0, 1) := by decide +kernel
theorem dX5_refuseWhileWaiting_1 : decode cX5_refuseWhileWaiting 1 = .ok (.invokevirtual 169, 3) := by decide +kernel
theorem dX5_refuseWhileWaiting_4 : decode cX5_refuseWhileWaiting 4 = .ok (.astore_n 1, 1) := by decide +kernel
theorem dX5_refuseWhileWaiting_5 : decode cX5_refuseWhileWaiting 5 = .ok (.aload_n 1, 1) := by decide +kernel
theorem dX5_refuseWhileWaiting_6 : decode cX5_refuseWhileWaiting 6 = .ok (.ifnull 21, 3) := by decide +kernel
theorem dX5_refuseWhileWaiting_9 : decode cX5_refuseWhileWaiting 9 = .ok (.aload_n 1, 1) := by decide +kernel
theorem dX5_refuseWhileWaiting_10 : decode cX5_refuseWhileWaiting 10 = .ok (.getfield 172, 3) := by decide +kernel
theorem dX5_refuseWhileWaiting_13 : decode cX5_refuseWhileWaiting 13 = .ok (.ifCond .eq 14, 3) := by decide +kernel
theorem dX5_refuseWhileWaiting_16 : decode cX5_refuseWhileWaiting 16 = .ok (.new 62, 3) := by decide +kernel
theorem dX5_refuseWhileWaiting_19 : decode cX5_refuseWhileWaiting 19 = .ok (.dup, 1) := by decide +kernel
theorem dX5_refuseWhileWaiting_20 : decode cX5_refuseWhileWaiting 20 = .ok (.ldc_w 297, 3) := by decide +kernel
theorem dX5_refuseWhileWaiting_23 : decode cX5_refuseWhileWaiting 23 = .ok (.invokespecial 66, 3) := by decide +kernel
theorem dX5_refuseWhileWaiting_26 : decode cX5_refuseWhileWaiting 26 = .ok (.athrow, 1) := by decide +kernel
theorem dX5_refuseWhileWaiting_27 : decode cX5_refuseWhileWaiting 27 = .ok (.return_, 1) := by decide +kernel
theorem dX5_beginBlock_0 : decode cX5_beginBlock 0 = .ok (.aload_n 0, 1) := by decide +kernel
theorem dX5_beginBlock_1 : decode cX5_beginBlock 1 = .ok (.getfield 200, 3) := by decide +kernel
theorem dX5_beginBlock_4 : decode cX5_beginBlock 4 = .ok (.bipush 40, 2) := by decide +kernel
theorem dX5_beginBlock_6 : decode cX5_beginBlock 6 = .ok (.if_icmp .lt 14, 3) := by decide +kernel
theorem dX5_beginBlock_9 : decode cX5_beginBlock 9 = .ok (.new 62, 3) := by decide +kernel
theorem dX5_beginBlock_12 : decode cX5_beginBlock 12 = .ok (.dup, 1) := by decide +kernel
theorem dX5_beginBlock_13 : decode cX5_beginBlock 13 = .ok (.ldc_w 301, 3) := by decide +kernel
theorem dX5_beginBlock_16 : decode cX5_beginBlock 16 = .ok (.invokespecial 66, 3) := by decide +kernel
theorem dX5_beginBlock_19 : decode cX5_beginBlock 19 = .ok (.athrow, 1) := by decide +kernel
theorem dX5_beginBlock_20 : decode cX5_beginBlock 20 = .ok (.aload_n 0, 1) := by decide +kernel
theorem dX5_beginBlock_21 : decode cX5_beginBlock 21 = .ok (.getfield 24, 3) := by decide +kernel
theorem dX5_beginBlock_24 : decode cX5_beginBlock 24 = .ok (.aload_n 0, 1) := by decide +kernel
theorem dX5_beginBlock_25 : decode cX5_beginBlock 25 = .ok (.getfield 200, 3) := by decide +kernel
theorem dX5_beginBlock_28 : decode cX5_beginBlock 28 = .ok (.aaload, 1) := by decide +kernel
theorem dX5_beginBlock_29 : decode cX5_beginBlock 29 = .ok (.iload_n 1, 1) := by decide +kernel
theorem dX5_beginBlock_30 : decode cX5_beginBlock 30 = .ok (.aload_n 2, 1) := by decide +kernel
theorem dX5_beginBlock_31 : decode cX5_beginBlock 31 = .ok (.invokevirtual 303, 3) := by decide +kernel
theorem dX5_beginBlock_34 : decode cX5_beginBlock 34 = .ok (.aload_n 0, 1) := by decide +kernel
theorem dX5_beginBlock_35 : decode cX5_beginBlock 35 = .ok (.dup, 1) := by decide +kernel
theorem dX5_beginBlock_36 : decode cX5_beginBlock 36 = .ok (.getfield 200, 3) := by decide +kernel
theorem dX5_beginBlock_39 : decode cX5_beginBlock 39 = .ok (.iconst 1, 1) := by decide +kernel
theorem dX5_beginBlock_40 : decode cX5_beginBlock 40 = .ok (.iadd, 1) := by decide +kernel
theorem dX5_beginBlock_41 : decode cX5_beginBlock 41 = .ok (.putfield 200, 3) := by decide +kernel
theorem dX5_beginBlock_44 : decode cX5_beginBlock 44 = .ok (.aload_n 0, 1) := by decide +kernel
theorem dX5_beginBlock_45 : decode cX5_beginBlock 45 = .ok (.getfield 200, 3) := by decide +kernel
theorem dX5_beginBlock_48 : decode cX5_beginBlock 48 = .ok (.ireturn, 1) := by decide +kernel
theorem dX5_now_0 : decode cX5_now 0 = .ok (.aload_n 0, 1) := by decide +kernel
theorem dX5_now_1 : decode cX5_now 1 = .ok (.invokevirtual 145, 3) := by decide +kernel
theorem dX5_now_4 : decode cX5_now 4 = .ok (.aload_n 0, 1) := by decide +kernel
theorem dX5_now_5 : decode cX5_now 5 = .ok (.iconst 1, 1) := by decide +kernel
theorem dX5_now_6 : decode cX5_now 6 = .ok (.aload_n 0, 1) := by decide +kernel
theorem dX5_now_7 : decode cX5_now 7 = .ok (.getfield 43, 3) := by decide +kernel
theorem dX5_now_10 : decode cX5_now 10 = .ok (.invokevirtual 148, 3) := by decide +kernel
theorem dX5_now_13 : decode cX5_now 13 = .ok (.ireturn, 1) := by decide +kernel
theorem dX5_init_0 : decode cX5_init 0 = .ok (.aload_n 0, 1) := by decide +kernel
theorem dX5_init_1 : decode cX5_init 1 = .ok (.invokespecial 1, 3) := by decide +kernel
theorem dX5_init_4 : decode cX5_init 4 = .ok (.aload_n 0, 1) := by decide +kernel
theorem dX5_init_5 : decode cX5_init 5 = .ok (.sipush 1000, 3) := by decide +kernel
theorem dX5_init_8 : decode cX5_init 8 = .ok (.anewarray 9, 3) := by decide +kernel
theorem dX5_init_11 : decode cX5_init 11 = .ok (.putfield 11, 3) := by decide +kernel
theorem dX5_init_14 : decode cX5_init 14 = .ok (.aload_n 0, 1) := by decide +kernel
theorem dX5_init_15 : decode cX5_init 15 = .ok (.bipush 30, 2) := by decide +kernel
theorem dX5_init_17 : decode cX5_init 17 = .ok (.newarray .int, 2) := by decide +kernel
theorem dX5_init_19 : decode cX5_init 19 = .ok (.putfield 15, 3) := by decide +kernel
theorem dX5_init_22 : decode cX5_init 22 = .ok (.aload_n 0, 1) := by decide +kernel
theorem dX5_init_23 : decode cX5_init 23 = .ok (.bipush 30, 2) := by decide +kernel
theorem dX5_init_25 : decode cX5_init 25 = .ok (.anewarray 9, 3) := by decide +kernel
theorem dX5_init_28 : decode cX5_init 28 = .ok (.putfield 19, 3) := by decide +kernel
theorem dX5_init_31 : decode cX5_init 31 = .ok (.aload_n 0, 1) := by decide +kernel
theorem dX5_init_32 : decode cX5_init 32 = .ok (.bipush 40, 2) := by decide +kernel
theorem dX5_init_34 : decode cX5_init 34 = .ok (.anewarray 22, 3) := by decide +kernel
theorem dX5_init_37 : decode cX5_init 37 = .ok (.putfield 24, 3) := by decide +kernel
theorem dX5_init_40 : decode cX5_init 40 = .ok (.iconst 0, 1) := by decide +kernel
theorem dX5_init_41 : decode cX5_init 41 = .ok (.istore_n 1, 1) := by decide +kernel
theorem dX5_init_42 : decode cX5_init 42 = .ok (.iload_n 1, 1) := by decide +kernel
theorem dX5_init_43 : decode cX5_init 43 = .ok (.bipush 40, 2) := by decide +kernel
theorem dX5_init_45 : decode cX5_init 45 = .ok (.if_icmp .ge 22, 3) := by decide +kernel
theorem dX5_init_48 : decode cX5_init 48 = .ok (.aload_n 0, 1) := by decide +kernel
theorem dX5_init_49 : decode cX5_init 49 = .ok (.getfield 24, 3) := by decide +kernel
theorem dX5_init_52 : decode cX5_init 52 = .ok (.iload_n 1, 1) := by decide +kernel
theorem dX5_init_53 : decode cX5_init 53 = .ok (.new 22, 3) := by decide +kernel
theorem dX5_init_56 : decode cX5_init 56 = .ok (.dup, 1) := by decide +kernel
theorem dX5_init_57 : decode cX5_init 57 = .ok (.invokespecial 28, 3) := by decide +kernel
theorem dX5_init_60 : decode cX5_init 60 = .ok (.aastore, 1) := by decide +kernel
theorem dX5_init_61 : decode cX5_init 61 = .ok (.iinc 1 1, 3) := by decide +kernel
theorem dX5_init_64 : decode cX5_init 64 = .ok (.goto (-22), 3) := by decide +kernel
theorem dX5_init_67 : decode cX5_init 67 = .ok (.aload_n 0, 1) := by decide +kernel
theorem dX5_init_68 : decode cX5_init 68 = .ok (.new 29, 3) := by decide +kernel
theorem dX5_init_71 : decode cX5_init 71 = .ok (.dup, 1) := by decide +kernel
theorem dX5_init_72 : decode cX5_init 72 = .ok (.invokespecial 31, 3) := by decide +kernel
theorem dX5_init_75 : decode cX5_init 75 = .ok (.putfield 32, 3) := by decide +kernel
theorem dX5_init_78 : decode cX5_init 78 = .ok (.aload_n 0, 1) := by decide +kernel
theorem dX5_init_79 : decode cX5_init 79 = .ok (.new 29, 3) := by decide +kernel
theorem dX5_init_82 : decode cX5_init 82 = .ok (.dup, 1) := by decide +kernel
theorem dX5_init_83 : decode cX5_init 83 = .ok (.invokespecial 31, 3) := by decide +kernel
theorem dX5_init_86 : decode cX5_init 86 = .ok (.putfield 36, 3) := by decide +kernel
theorem dX5_init_89 : decode cX5_init 89 = .ok (.aload_n 0, 1) := by decide +kernel
theorem dX5_init_90 : decode cX5_init 90 = .ok (.aload_n 0, 1) := by decide +kernel
theorem dX5_init_91 : decode cX5_init 91 = .ok (.getfield 32, 3) := by decide +kernel
theorem dX5_init_94 : decode cX5_init 94 = .ok (.invokevirtual 39, 3) := by decide +kernel
theorem dX5_init_97 : decode cX5_init 97 = .ok (.putfield 43, 3) := by decide +kernel
theorem dX5_init_100 : decode cX5_init 100 = .ok (.aload_n 0, 1) := by decide +kernel
theorem dX5_init_101 : decode cX5_init 101 = .ok (.iconst 1, 1) := by decide +kernel
theorem dX5_init_102 : decode cX5_init 102 = .ok (.putfield 47, 3) := by decide +kernel
theorem dX5_init_105 : decode cX5_init 105 = .ok (.return_, 1) := by decide +kernel
theorem dX0_init_0 : decode cX0_init 0 = .ok (.aload_n 0, 1) := by decide +kernel
theorem dX0_init_1 : decode cX0_init 1 = .ok (.invokespecial 3, 3) := by decide +kernel
theorem dX0_init_4 : decode cX0_init 4 = .ok (.return_, 1) := by decide +kernel
theorem dX6_fails_0 : decode cX6_fails 0 = .ok (.aload_n 0, 1) := by decide +kernel
theorem dX6_fails_1 : decode cX6_fails 1 = .ok (.iload_n 1, 1) := by decide +kernel
theorem dX6_fails_2 : decode cX6_fails 2 = .ok (.putfield 93, 3) := by decide +kernel
theorem dX6_fails_5 : decode cX6_fails 5 = .ok (.iconst 0, 1) := by decide +kernel
theorem dX6_fails_6 : decode cX6_fails 6 = .ok (.ireturn, 1) := by decide +kernel
theorem dX6_isForm_0 : decode cX6_isForm 0 = .ok (.iload_n 1, 1) := by decide +kernel
theorem dX6_isForm_1 : decode cX6_isForm 1 = .ok (.ifCond .lt 15, 3) := by decide +kernel
theorem dX6_isForm_4 : decode cX6_isForm 4 = .ok (.iload_n 1, 1) := by decide +kernel
theorem dX6_isForm_5 : decode cX6_isForm 5 = .ok (.aload_n 0, 1) := by decide +kernel
theorem dX6_isForm_6 : decode cX6_isForm 6 = .ok (.getfield 205, 3) := by decide +kernel
theorem dX6_isForm_9 : decode cX6_isForm 9 = .ok (.if_icmp .ge 7, 3) := by decide +kernel
theorem dX6_isForm_12 : decode cX6_isForm 12 = .ok (.iconst 1, 1) := by decide +kernel
theorem dX6_isForm_13 : decode cX6_isForm 13 = .ok (.goto 4, 3) := by decide +kernel
theorem dX6_isForm_16 : decode cX6_isForm 16 = .ok (.iconst 0, 1) := by decide +kernel
theorem dX6_isForm_17 : decode cX6_isForm 17 = .ok (.ireturn, 1) := by decide +kernel
theorem dX6_term_0 : decode cX6_term 0 = .ok (.aload_n 0, 1) := by decide +kernel
theorem dX6_term_1 : decode cX6_term 1 = .ok (.iload_n 1, 1) := by decide +kernel
theorem dX6_term_2 : decode cX6_term 2 = .ok (.invokevirtual 211, 3) := by decide +kernel
theorem dX6_term_5 : decode cX6_term 5 = .ok (.ifCond .eq 27, 3) := by decide +kernel
theorem dX6_term_8 : decode cX6_term 8 = .ok (.aload_n 0, 1) := by decide +kernel
theorem dX6_term_9 : decode cX6_term 9 = .ok (.getfield 7, 3) := by decide +kernel
theorem dX6_term_12 : decode cX6_term 12 = .ok (.aload_n 0, 1) := by decide +kernel
theorem dX6_term_13 : decode cX6_term 13 = .ok (.getfield 90, 3) := by decide +kernel
theorem dX6_term_16 : decode cX6_term 16 = .ok (.iload_n 1, 1) := by decide +kernel
theorem dX6_term_17 : decode cX6_term 17 = .ok (.iaload, 1) := by decide +kernel
theorem dX6_term_18 : decode cX6_term 18 = .ok (.iaload, 1) := by decide +kernel
theorem dX6_term_19 : decode cX6_term 19 = .ok (.iconst 2, 1) := by decide +kernel
theorem dX6_term_20 : decode cX6_term 20 = .ok (.if_icmp .ge 12, 3) := by decide +kernel
theorem dX6_term_23 : decode cX6_term 23 = .ok (.aload_n 0, 1) := by decide +kernel
theorem dX6_term_24 : decode cX6_term 24 = .ok (.getfield 90, 3) := by decide +kernel
theorem dX6_term_27 : decode cX6_term 27 = .ok (.iload_n 1, 1) := by decide +kernel
theorem dX6_term_28 : decode cX6_term 28 = .ok (.iaload, 1) := by decide +kernel
theorem dX6_term_29 : decode cX6_term 29 = .ok (.goto 4, 3) := by decide +kernel
theorem dX6_term_32 : decode cX6_term 32 = .ok (.iconst 0, 1) := by decide +kernel
theorem dX6_term_33 : decode cX6_term 33 = .ok (.ireturn, 1) := by decide +kernel
theorem dX6_formula_0 : decode cX6_formula 0 = .ok (.aload_n 0, 1) := by decide +kernel
theorem dX6_formula_1 : decode cX6_formula 1 = .ok (.iload_n 1, 1) := by decide +kernel
theorem dX6_formula_2 : decode cX6_formula 2 = .ok (.invokevirtual 211, 3) := by decide +kernel
theorem dX6_formula_5 : decode cX6_formula 5 = .ok (.ifCond .eq 41, 3) := by decide +kernel
theorem dX6_formula_8 : decode cX6_formula 8 = .ok (.aload_n 0, 1) := by decide +kernel
theorem dX6_formula_9 : decode cX6_formula 9 = .ok (.getfield 7, 3) := by decide +kernel
theorem dX6_formula_12 : decode cX6_formula 12 = .ok (.aload_n 0, 1) := by decide +kernel
theorem dX6_formula_13 : decode cX6_formula 13 = .ok (.getfield 90, 3) := by decide +kernel
theorem dX6_formula_16 : decode cX6_formula 16 = .ok (.iload_n 1, 1) := by decide +kernel
theorem dX6_formula_17 : decode cX6_formula 17 = .ok (.iaload, 1) := by decide +kernel
theorem dX6_formula_18 : decode cX6_formula 18 = .ok (.iaload, 1) := by decide +kernel
theorem dX6_formula_19 : decode cX6_formula 19 = .ok (.iconst 2, 1) := by decide +kernel
theorem dX6_formula_20 : decode cX6_formula 20 = .ok (.if_icmp .le 26, 3) := by decide +kernel
theorem dX6_formula_23 : decode cX6_formula 23 = .ok (.aload_n 0, 1) := by decide +kernel
theorem dX6_formula_24 : decode cX6_formula 24 = .ok (.getfield 25, 3) := by decide +kernel
theorem dX6_formula_27 : decode cX6_formula 27 = .ok (.aload_n 0, 1) := by decide +kernel
theorem dX6_formula_28 : decode cX6_formula 28 = .ok (.getfield 90, 3) := by decide +kernel
theorem dX6_formula_31 : decode cX6_formula 31 = .ok (.iload_n 1, 1) := by decide +kernel
theorem dX6_formula_32 : decode cX6_formula 32 = .ok (.iaload, 1) := by decide +kernel
theorem dX6_formula_33 : decode cX6_formula 33 = .ok (.iaload, 1) := by decide +kernel
theorem dX6_formula_34 : decode cX6_formula 34 = .ok (.ifCond .ne 12, 3) := by decide +kernel
theorem dX6_formula_37 : decode cX6_formula 37 = .ok (.aload_n 0, 1) := by decide +kernel
theorem dX6_formula_38 : decode cX6_formula 38 = .ok (.getfield 90, 3) := by decide +kernel
theorem dX6_formula_41 : decode cX6_formula 41 = .ok (.iload_n 1, 1) := by decide +kernel
theorem dX6_formula_42 : decode cX6_formula 42 = .ok (.iaload, 1) := by decide +kernel
theorem dX6_formula_43 : decode cX6_formula 43 = .ok (.goto 4, 3) := by decide +kernel
theorem dX6_formula_46 : decode cX6_formula 46 = .ok (.iconst 0, 1) := by decide +kernel
theorem dX6_formula_47 : decode cX6_formula 47 = .ok (.ireturn, 1) := by decide +kernel
theorem dX6_closed_0 : decode cX6_closed 0 = .ok (.aload_n 0, 1) := by decide +kernel
theorem dX6_closed_1 : decode cX6_closed 1 = .ok (.iload_n 1, 1) := by decide +kernel
theorem dX6_closed_2 : decode cX6_closed 2 = .ok (.invokevirtual 215, 3) := by decide +kernel
theorem dX6_closed_5 : decode cX6_closed 5 = .ok (.istore_n 2, 1) := by decide +kernel
theorem dX6_closed_6 : decode cX6_closed 6 = .ok (.iload_n 2, 1) := by decide +kernel
theorem dX6_closed_7 : decode cX6_closed 7 = .ok (.ifCond .le 15, 3) := by decide +kernel
theorem dX6_closed_10 : decode cX6_closed 10 = .ok (.aload_n 0, 1) := by decide +kernel
theorem dX6_closed_11 : decode cX6_closed 11 = .ok (.iload_n 2, 1) := by decide +kernel
theorem dX6_closed_12 : decode cX6_closed 12 = .ok (.invokevirtual 218, 3) := by decide +kernel
theorem dX6_closed_15 : decode cX6_closed 15 = .ok (.ifCond .eq 7, 3) := by decide +kernel
theorem dX6_closed_18 : decode cX6_closed 18 = .ok (.iload_n 2, 1) := by decide +kernel
theorem dX6_closed_19 : decode cX6_closed 19 = .ok (.goto 4, 3) := by decide +kernel
theorem dX6_closed_22 : decode cX6_closed 22 = .ok (.iconst 0, 1) := by decide +kernel
theorem dX6_closed_23 : decode cX6_closed 23 = .ok (.ireturn, 1) := by decide +kernel
theorem dX6_constantOf_0 : decode cX6_constantOf 0 = .ok (.aload_n 0, 1) := by decide +kernel
theorem dX6_constantOf_1 : decode cX6_constantOf 1 = .ok (.iload_n 1, 1) := by decide +kernel
theorem dX6_constantOf_2 : decode cX6_constantOf 2 = .ok (.invokevirtual 211, 3) := by decide +kernel
theorem dX6_constantOf_5 : decode cX6_constantOf 5 = .ok (.ifCond .eq 26, 3) := by decide +kernel
theorem dX6_constantOf_8 : decode cX6_constantOf 8 = .ok (.aload_n 0, 1) := by decide +kernel
theorem dX6_constantOf_9 : decode cX6_constantOf 9 = .ok (.getfield 7, 3) := by decide +kernel
theorem dX6_constantOf_12 : decode cX6_constantOf 12 = .ok (.aload_n 0, 1) := by decide +kernel
theorem dX6_constantOf_13 : decode cX6_constantOf 13 = .ok (.getfield 90, 3) := by decide +kernel
theorem dX6_constantOf_16 : decode cX6_constantOf 16 = .ok (.iload_n 1, 1) := by decide +kernel
theorem dX6_constantOf_17 : decode cX6_constantOf 17 = .ok (.iaload, 1) := by decide +kernel
theorem dX6_constantOf_18 : decode cX6_constantOf 18 = .ok (.iaload, 1) := by decide +kernel
theorem dX6_constantOf_19 : decode cX6_constantOf 19 = .ok (.ifCond .ne 12, 3) := by decide +kernel
theorem dX6_constantOf_22 : decode cX6_constantOf 22 = .ok (.aload_n 0, 1) := by decide +kernel
theorem dX6_constantOf_23 : decode cX6_constantOf 23 = .ok (.getfield 90, 3) := by decide +kernel
theorem dX6_constantOf_26 : decode cX6_constantOf 26 = .ok (.iload_n 1, 1) := by decide +kernel
theorem dX6_constantOf_27 : decode cX6_constantOf 27 = .ok (.iaload, 1) := by decide +kernel
theorem dX6_constantOf_28 : decode cX6_constantOf 28 = .ok (.goto 4, 3) := by decide +kernel
theorem dX6_constantOf_31 : decode cX6_constantOf 31 = .ok (.iconst 0, 1) := by decide +kernel
theorem dX6_constantOf_32 : decode cX6_constantOf 32 = .ok (.ireturn, 1) := by decide +kernel
theorem dX6_isOpen_0 : decode cX6_isOpen 0 = .ok (.aload_n 0, 1) := by decide +kernel
theorem dX6_isOpen_1 : decode cX6_isOpen 1 = .ok (.getfield 187, 3) := by decide +kernel
theorem dX6_isOpen_4 : decode cX6_isOpen 4 = .ok (.ifCond .le 21, 3) := by decide +kernel
theorem dX6_isOpen_7 : decode cX6_isOpen 7 = .ok (.aload_n 0, 1) := by decide +kernel
theorem dX6_isOpen_8 : decode cX6_isOpen 8 = .ok (.getfield 67, 3) := by decide +kernel
theorem dX6_isOpen_11 : decode cX6_isOpen 11 = .ok (.aload_n 0, 1) := by decide +kernel
theorem dX6_isOpen_12 : decode cX6_isOpen 12 = .ok (.getfield 187, 3) := by decide +kernel
theorem dX6_isOpen_15 : decode cX6_isOpen 15 = .ok (.iconst 1, 1) := by decide +kernel
theorem dX6_isOpen_16 : decode cX6_isOpen 16 = .ok (.isub, 1) := by decide +kernel
theorem dX6_isOpen_17 : decode cX6_isOpen 17 = .ok (.baload, 1) := by decide +kernel
theorem dX6_isOpen_18 : decode cX6_isOpen 18 = .ok (.ifCond .ne 7, 3) := by decide +kernel
theorem dX6_isOpen_21 : decode cX6_isOpen 21 = .ok (.iconst 1, 1) := by decide +kernel
theorem dX6_isOpen_22 : decode cX6_isOpen 22 = .ok (.goto 4, 3) := by decide +kernel
theorem dX6_isOpen_25 : decode cX6_isOpen 25 = .ok (.iconst 0, 1) := by decide +kernel
theorem dX6_isOpen_26 : decode cX6_isOpen 26 = .ok (.ireturn, 1) := by decide +kernel
theorem dX6_define_0 : decode cX6_define 0 = .ok (.aload_n 0, 1) := by decide +kernel
theorem dX6_define_1 : decode cX6_define 1 = .ok (.iconst 0, 1) := by decide +kernel
theorem dX6_define_2 : decode cX6_define 2 = .ok (.putfield 93, 3) := by decide +kernel
theorem dX6_define_5 : decode cX6_define 5 = .ok (.aload_n 0, 1) := by decide +kernel
theorem dX6_define_6 : decode cX6_define 6 = .ok (.iload_n 2, 1) := by decide +kernel
theorem dX6_define_7 : decode cX6_define 7 = .ok (.invokevirtual 215, 3) := by decide +kernel
theorem dX6_define_10 : decode cX6_define 10 = .ok (.istore_n 3, 1) := by decide +kernel
theorem dX6_define_11 : decode cX6_define 11 = .ok (.iload_n 1, 1) := by decide +kernel
theorem dX6_define_12 : decode cX6_define 12 = .ok (.ifCond .lt 53, 3) := by decide +kernel
theorem dX6_define_15 : decode cX6_define 15 = .ok (.iload_n 1, 1) := by decide +kernel
theorem dX6_define_16 : decode cX6_define 16 = .ok (.aload_n 0, 1) := by decide +kernel
theorem dX6_define_17 : decode cX6_define 17 = .ok (.getfield 221, 3) := by decide +kernel
theorem dX6_define_20 : decode cX6_define 20 = .ok (.if_icmp .ge 45, 3) := by decide +kernel
theorem dX6_define_23 : decode cX6_define 23 = .ok (.iload_n 3, 1) := by decide +kernel
theorem dX6_define_24 : decode cX6_define 24 = .ok (.ifCond .eq 41, 3) := by decide +kernel
theorem dX6_define_27 : decode cX6_define 27 = .ok (.aload_n 0, 1) := by decide +kernel
theorem dX6_define_28 : decode cX6_define 28 = .ok (.getfield 46, 3) := by decide +kernel
theorem dX6_define_31 : decode cX6_define 31 = .ok (.iload_n 1, 1) := by decide +kernel
theorem dX6_define_32 : decode cX6_define 32 = .ok (.iaload, 1) := by decide +kernel
theorem dX6_define_33 : decode cX6_define 33 = .ok (.iconst 1, 1) := by decide +kernel
theorem dX6_define_34 : decode cX6_define 34 = .ok (.if_icmp .ge 12, 3) := by decide +kernel
theorem dX6_define_37 : decode cX6_define 37 = .ok (.aload_n 0, 1) := by decide +kernel
theorem dX6_define_38 : decode cX6_define 38 = .ok (.iload_n 3, 1) := by decide +kernel
theorem dX6_define_39 : decode cX6_define 39 = .ok (.iconst 0, 1) := by decide +kernel
theorem dX6_define_40 : decode cX6_define 40 = .ok (.invokevirtual 177, 3) := by decide +kernel
theorem dX6_define_43 : decode cX6_define 43 = .ok (.ifCond .ne 22, 3) := by decide +kernel
theorem dX6_define_46 : decode cX6_define 46 = .ok (.aload_n 0, 1) := by decide +kernel
theorem dX6_define_47 : decode cX6_define 47 = .ok (.getfield 46, 3) := by decide +kernel
theorem dX6_define_50 : decode cX6_define 50 = .ok (.iload_n 1, 1) := by decide +kernel
theorem dX6_define_51 : decode cX6_define 51 = .ok (.iaload, 1) := by decide +kernel
theorem dX6_define_52 : decode cX6_define 52 = .ok (.iconst 2, 1) := by decide +kernel
theorem dX6_define_53 : decode cX6_define 53 = .ok (.if_icmp .ge 26, 3) := by decide +kernel
theorem dX6_define_56 : decode cX6_define 56 = .ok (.aload_n 0, 1) := by decide +kernel
theorem dX6_define_57 : decode cX6_define 57 = .ok (.iload_n 3, 1) := by decide +kernel
theorem dX6_define_58 : decode cX6_define 58 = .ok (.iconst 1, 1) := by decide +kernel
theorem dX6_define_59 : decode cX6_define 59 = .ok (.invokevirtual 177, 3) := by decide +kernel
theorem dX6_define_62 : decode cX6_define 62 = .ok (.ifCond .eq 17, 3) := by decide +kernel
theorem dX6_define_65 : decode cX6_define 65 = .ok (.aload_n 0, 1) := by decide +kernel
theorem dX6_define_66 : decode cX6_define 66 = .ok (.iconst 1, 1) := by decide +kernel
theorem dX6_define_67 : decode cX6_define 67 = .ok (.invokevirtual 208, 3) := by decide +kernel
theorem dX6_define_70 : decode cX6_define 70 = .ok (.ifCond .le 7, 3) := by decide +kernel
theorem dX6_define_73 : decode cX6_define 73 = .ok (.iconst 1, 1) := by decide +kernel
theorem dX6_define_74 : decode cX6_define 74 = .ok (.goto 4, 3) := by decide +kernel
theorem dX6_define_77 : decode cX6_define 77 = .ok (.iconst 0, 1) := by decide +kernel
theorem dX6_define_78 : decode cX6_define 78 = .ok (.ireturn, 1) := by decide +kernel
theorem dX6_define_79 : decode cX6_define 79 = .ok (.aload_n 0, 1) := by decide +kernel
theorem dX6_define_80 : decode cX6_define 80 = .ok (.getfield 49, 3) := by decide +kernel
theorem dX6_define_83 : decode cX6_define 83 = .ok (.iload_n 1, 1) := by decide +kernel
theorem dX6_define_84 : decode cX6_define 84 = .ok (.iaload, 1) := by decide +kernel
theorem dX6_define_85 : decode cX6_define 85 = .ok (.ifCond .le 7, 3) := by decide +kernel
theorem dX6_define_88 : decode cX6_define 88 = .ok (.iconst 1, 1) := by decide +kernel
theorem dX6_define_89 : decode cX6_define 89 = .ok (.goto 4, 3) := by decide +kernel
theorem dX6_define_92 : decode cX6_define 92 = .ok (.iconst 0, 1) := by decide +kernel
theorem dX6_define_93 : decode cX6_define 93 = .ok (.istore 4, 2) := by decide +kernel
theorem dX6_define_95 : decode cX6_define 95 = .ok (.aload_n 0, 1) := by decide +kernel
theorem dX6_define_96 : decode cX6_define 96 = .ok (.getfield 49, 3) := by decide +kernel
theorem dX6_define_99 : decode cX6_define 99 = .ok (.iload_n 1, 1) := by decide +kernel
theorem dX6_define_100 : decode cX6_define 100 = .ok (.iload_n 3, 1) := by decide +kernel
theorem dX6_define_101 : decode cX6_define 101 = .ok (.iastore, 1) := by decide +kernel
theorem dX6_define_102 : decode cX6_define 102 = .ok (.iload 4, 2) := by decide +kernel
theorem dX6_define_104 : decode cX6_define 104 = .ok (.ireturn, 1) := by decide +kernel
theorem dX6_atom_0 : decode cX6_atom 0 = .ok (.aload_n 0, 1) := by decide +kernel
theorem dX6_atom_1 : decode cX6_atom 1 = .ok (.iconst 0, 1) := by decide +kernel
theorem dX6_atom_2 : decode cX6_atom 2 = .ok (.putfield 93, 3) := by decide +kernel
theorem dX6_atom_5 : decode cX6_atom 5 = .ok (.iload_n 1, 1) := by decide +kernel
theorem dX6_atom_6 : decode cX6_atom 6 = .ok (.iconst (-1), 1) := by decide +kernel
theorem dX6_atom_7 : decode cX6_atom 7 = .ok (.if_icmp .lt 11, 3) := by decide +kernel
theorem dX6_atom_10 : decode cX6_atom 10 = .ok (.iload_n 1, 1) := by decide +kernel
theorem dX6_atom_11 : decode cX6_atom 11 = .ok (.aload_n 0, 1) := by decide +kernel
theorem dX6_atom_12 : decode cX6_atom 12 = .ok (.getfield 221, 3) := by decide +kernel
theorem dX6_atom_15 : decode cX6_atom 15 = .ok (.if_icmp .lt 9, 3) := by decide +kernel
theorem dX6_atom_18 : decode cX6_atom 18 = .ok (.aload_n 0, 1) := by decide +kernel
theorem dX6_atom_19 : decode cX6_atom 19 = .ok (.iconst 1, 1) := by decide +kernel
theorem dX6_atom_20 : decode cX6_atom 20 = .ok (.invokevirtual 208, 3) := by decide +kernel
theorem dX6_atom_23 : decode cX6_atom 23 = .ok (.ireturn, 1) := by decide +kernel
theorem dX6_atom_24 : decode cX6_atom 24 = .ok (.iload_n 1, 1) := by decide +kernel
theorem dX6_atom_25 : decode cX6_atom 25 = .ok (.ifCond .ge 7, 3) := by decide +kernel
theorem dX6_atom_28 : decode cX6_atom 28 = .ok (.iconst 2, 1) := by decide +kernel
theorem dX6_atom_29 : decode cX6_atom 29 = .ok (.goto 9, 3) := by decide +kernel
theorem dX6_atom_32 : decode cX6_atom 32 = .ok (.aload_n 0, 1) := by decide +kernel
theorem dX6_atom_33 : decode cX6_atom 33 = .ok (.getfield 46, 3) := by decide +kernel
theorem dX6_atom_36 : decode cX6_atom 36 = .ok (.iload_n 1, 1) := by decide +kernel
theorem dX6_atom_37 : decode cX6_atom 37 = .ok (.iaload, 1) := by decide +kernel
theorem dX6_atom_38 : decode cX6_atom 38 = .ok (.istore 4, 2) := by decide +kernel
theorem dX6_atom_40 : decode cX6_atom 40 = .ok (.aload_n 0, 1) := by decide +kernel
theorem dX6_atom_41 : decode cX6_atom 41 = .ok (.iload_n 2, 1) := by decide +kernel
theorem dX6_atom_42 : decode cX6_atom 42 = .ok (.invokevirtual 230, 3) := by decide +kernel
theorem dX6_atom_45 : decode cX6_atom 45 = .ok (.istore 5, 2) := by decide +kernel
theorem dX6_atom_47 : decode cX6_atom 47 = .ok (.aload_n 0, 1) := by decide +kernel
theorem dX6_atom_48 : decode cX6_atom 48 = .ok (.iload_n 3, 1) := by decide +kernel
theorem dX6_atom_49 : decode cX6_atom 49 = .ok (.invokevirtual 230, 3) := by decide +kernel
theorem dX6_atom_52 : decode cX6_atom 52 = .ok (.istore 6, 2) := by decide +kernel
theorem dX6_atom_54 : decode cX6_atom 54 = .ok (.iload 4, 2) := by decide +kernel
theorem dX6_atom_56 : decode cX6_atom 56 = .ok (.ifCond .le 11, 3) := by decide +kernel
theorem dX6_atom_59 : decode cX6_atom 59 = .ok (.iload 5, 2) := by decide +kernel
theorem dX6_atom_61 : decode cX6_atom 61 = .ok (.ifCond .ne 17, 3) := by decide +kernel
theorem dX6_atom_64 : decode cX6_atom 64 = .ok (.goto 8, 3) := by decide +kernel
theorem dX6_atom_67 : decode cX6_atom 67 = .ok (.iload_n 2, 1) := by decide +kernel
theorem dX6_atom_68 : decode cX6_atom 68 = .ok (.iconst (-1), 1) := by decide +kernel
theorem dX6_atom_69 : decode cX6_atom 69 = .ok (.if_icmp .eq 9, 3) := by decide +kernel
theorem dX6_atom_72 : decode cX6_atom 72 = .ok (.aload_n 0, 1) := by decide +kernel
theorem dX6_atom_73 : decode cX6_atom 73 = .ok (.iconst 1, 1) := by decide +kernel
theorem dX6_atom_74 : decode cX6_atom 74 = .ok (.invokevirtual 208, 3) := by decide +kernel
theorem dX6_atom_77 : decode cX6_atom 77 = .ok (.ireturn, 1) := by decide +kernel
theorem dX6_atom_78 : decode cX6_atom 78 = .ok (.iload 4, 2) := by decide +kernel
theorem dX6_atom_80 : decode cX6_atom 80 = .ok (.iconst 1, 1) := by decide +kernel
theorem dX6_atom_81 : decode cX6_atom 81 = .ok (.if_icmp .le 11, 3) := by decide +kernel
theorem dX6_atom_84 : decode cX6_atom 84 = .ok (.iload 6, 2) := by decide +kernel
theorem dX6_atom_86 : decode cX6_atom 86 = .ok (.ifCond .ne 17, 3) := by decide +kernel
theorem dX6_atom_89 : decode cX6_atom 89 = .ok (.goto 8, 3) := by decide +kernel
theorem dX6_atom_92 : decode cX6_atom 92 = .ok (.iload_n 3, 1) := by decide +kernel
theorem dX6_atom_93 : decode cX6_atom 93 = .ok (.iconst (-1), 1) := by decide +kernel
theorem dX6_atom_94 : decode cX6_atom 94 = .ok (.if_icmp .eq 9, 3) := by decide +kernel
theorem dX6_atom_97 : decode cX6_atom 97 = .ok (.aload_n 0, 1) := by decide +kernel
theorem dX6_atom_98 : decode cX6_atom 98 = .ok (.iconst 1, 1) := by decide +kernel
theorem dX6_atom_99 : decode cX6_atom 99 = .ok (.invokevirtual 208, 3) := by decide +kernel
theorem dX6_atom_102 : decode cX6_atom 102 = .ok (.ireturn, 1) := by decide +kernel
theorem dX6_atom_103 : decode cX6_atom 103 = .ok (.aload_n 0, 1) := by decide +kernel
theorem dX6_atom_104 : decode cX6_atom 104 = .ok (.getfield 103, 3) := by decide +kernel
theorem dX6_atom_107 : decode cX6_atom 107 = .ok (.istore 7, 2) := by decide +kernel
theorem dX6_atom_109 : decode cX6_atom 109 = .ok (.iload 4, 2) := by decide +kernel
theorem dX6_atom_111 : decode cX6_atom 111 = .ok (.ifCond .le 9, 3) := by decide +kernel
theorem dX6_atom_114 : decode cX6_atom 114 = .ok (.aload_n 0, 1) := by decide +kernel
theorem dX6_atom_115 : decode cX6_atom 115 = .ok (.iload 5, 2) := by decide +kernel
theorem dX6_atom_117 : decode cX6_atom 117 = .ok (.invokevirtual 130, 3) := by decide +kernel
theorem dX6_atom_120 : decode cX6_atom 120 = .ok (.iload 4, 2) := by decide +kernel
theorem dX6_atom_122 : decode cX6_atom 122 = .ok (.iconst 1, 1) := by decide +kernel
theorem dX6_atom_123 : decode cX6_atom 123 = .ok (.if_icmp .le 9, 3) := by decide +kernel
theorem dX6_atom_126 : decode cX6_atom 126 = .ok (.aload_n 0, 1) := by decide +kernel
theorem dX6_atom_127 : decode cX6_atom 127 = .ok (.iload 6, 2) := by decide +kernel
theorem dX6_atom_129 : decode cX6_atom 129 = .ok (.invokevirtual 130, 3) := by decide +kernel
theorem dX6_atom_132 : decode cX6_atom 132 = .ok (.aload_n 0, 1) := by decide +kernel
theorem dX6_atom_133 : decode cX6_atom 133 = .ok (.aload_n 0, 1) := by decide +kernel
theorem dX6_atom_134 : decode cX6_atom 134 = .ok (.iload_n 1, 1) := by decide +kernel
theorem dX6_atom_135 : decode cX6_atom 135 = .ok (.ifCond .ge 7, 3) := by decide +kernel
theorem dX6_atom_138 : decode cX6_atom 138 = .ok (.iconst 4, 1) := by decide +kernel
theorem dX6_atom_139 : decode cX6_atom 139 = .ok (.goto 4, 3) := by decide +kernel
theorem dX6_atom_142 : decode cX6_atom 142 = .ok (.iconst 5, 1) := by decide +kernel
theorem dX6_atom_143 : decode cX6_atom 143 = .ok (.iload_n 1, 1) := by decide +kernel
theorem dX6_atom_144 : decode cX6_atom 144 = .ok (.iload 7, 2) := by decide +kernel
theorem dX6_atom_146 : decode cX6_atom 146 = .ok (.invokevirtual 133, 3) := by decide +kernel
theorem dX6_atom_149 : decode cX6_atom 149 = .ok (.iconst 2, 1) := by decide +kernel
theorem dX6_atom_150 : decode cX6_atom 150 = .ok (.invokevirtual 227, 3) := by decide +kernel
theorem dX6_atom_153 : decode cX6_atom 153 = .ok (.ireturn, 1) := by decide +kernel
theorem dX6_bind_0 : decode cX6_bind 0 = .ok (.aload_n 0, 1) := by decide +kernel
theorem dX6_bind_1 : decode cX6_bind 1 = .ok (.iconst 0, 1) := by decide +kernel
theorem dX6_bind_2 : decode cX6_bind 2 = .ok (.putfield 93, 3) := by decide +kernel
theorem dX6_bind_5 : decode cX6_bind 5 = .ok (.aload_n 0, 1) := by decide +kernel
theorem dX6_bind_6 : decode cX6_bind 6 = .ok (.iload_n 2, 1) := by decide +kernel
theorem dX6_bind_7 : decode cX6_bind 7 = .ok (.invokevirtual 233, 3) := by decide +kernel
theorem dX6_bind_10 : decode cX6_bind 10 = .ok (.istore 4, 2) := by decide +kernel
theorem dX6_bind_12 : decode cX6_bind 12 = .ok (.aload_n 0, 1) := by decide +kernel
theorem dX6_bind_13 : decode cX6_bind 13 = .ok (.iload_n 3, 1) := by decide +kernel
theorem dX6_bind_14 : decode cX6_bind 14 = .ok (.invokevirtual 215, 3) := by decide +kernel
theorem dX6_bind_17 : decode cX6_bind 17 = .ok (.istore 5, 2) := by decide +kernel
theorem dX6_bind_19 : decode cX6_bind 19 = .ok (.iload 4, 2) := by decide +kernel
theorem dX6_bind_21 : decode cX6_bind 21 = .ok (.ifCond .eq 8, 3) := by decide +kernel
theorem dX6_bind_24 : decode cX6_bind 24 = .ok (.iload 5, 2) := by decide +kernel
theorem dX6_bind_26 : decode cX6_bind 26 = .ok (.ifCond .ne 9, 3) := by decide +kernel
theorem dX6_bind_29 : decode cX6_bind 29 = .ok (.aload_n 0, 1) := by decide +kernel
theorem dX6_bind_30 : decode cX6_bind 30 = .ok (.iconst 1, 1) := by decide +kernel
theorem dX6_bind_31 : decode cX6_bind 31 = .ok (.invokevirtual 208, 3) := by decide +kernel
theorem dX6_bind_34 : decode cX6_bind 34 = .ok (.ireturn, 1) := by decide +kernel
theorem dX6_bind_35 : decode cX6_bind 35 = .ok (.aload_n 0, 1) := by decide +kernel
theorem dX6_bind_36 : decode cX6_bind 36 = .ok (.aload_n 0, 1) := by decide +kernel
theorem dX6_bind_37 : decode cX6_bind 37 = .ok (.iload_n 1, 1) := by decide +kernel
theorem dX6_bind_38 : decode cX6_bind 38 = .ok (.ifCond .eq 12, 3) := by decide +kernel
theorem dX6_bind_41 : decode cX6_bind 41 = .ok (.aload_n 0, 1) := by decide +kernel
theorem dX6_bind_42 : decode cX6_bind 42 = .ok (.iload 5, 2) := by decide +kernel
theorem dX6_bind_44 : decode cX6_bind 44 = .ok (.invokevirtual 154, 3) := by decide +kernel
theorem dX6_bind_47 : decode cX6_bind 47 = .ok (.goto 5, 3) := by decide +kernel
theorem dX6_bind_50 : decode cX6_bind 50 = .ok (.iload 5, 2) := by decide +kernel
theorem dX6_bind_52 : decode cX6_bind 52 = .ok (.iload 4, 2) := by decide +kernel
theorem dX6_bind_54 : decode cX6_bind 54 = .ok (.iconst 0, 1) := by decide +kernel
theorem dX6_bind_55 : decode cX6_bind 55 = .ok (.invokevirtual 171, 3) := by decide +kernel
theorem dX6_bind_58 : decode cX6_bind 58 = .ok (.invokevirtual 159, 3) := by decide +kernel
theorem dX6_bind_61 : decode cX6_bind 61 = .ok (.istore 6, 2) := by decide +kernel
theorem dX6_bind_63 : decode cX6_bind 63 = .ok (.aload_n 0, 1) := by decide +kernel
theorem dX6_bind_64 : decode cX6_bind 64 = .ok (.iload_n 1, 1) := by decide +kernel
theorem dX6_bind_65 : decode cX6_bind 65 = .ok (.ifCond .eq 12, 3) := by decide +kernel
theorem dX6_bind_68 : decode cX6_bind 68 = .ok (.aload_n 0, 1) := by decide +kernel
theorem dX6_bind_69 : decode cX6_bind 69 = .ok (.iload 6, 2) := by decide +kernel
theorem dX6_bind_71 : decode cX6_bind 71 = .ok (.invokevirtual 154, 3) := by decide +kernel
theorem dX6_bind_74 : decode cX6_bind 74 = .ok (.goto 5, 3) := by decide +kernel
theorem dX6_bind_77 : decode cX6_bind 77 = .ok (.iload 6, 2) := by decide +kernel
theorem dX6_bind_79 : decode cX6_bind 79 = .ok (.iconst 2, 1) := by decide +kernel
theorem dX6_bind_80 : decode cX6_bind 80 = .ok (.invokevirtual 227, 3) := by decide +kernel
theorem dX6_bind_83 : decode cX6_bind 83 = .ok (.ireturn, 1) := by decide +kernel
theorem dX6_proof_0 : decode cX6_proof 0 = .ok (.aload_n 0, 1) := by decide +kernel
theorem dX6_proof_1 : decode cX6_proof 1 = .ok (.iconst 0, 1) := by decide +kernel
theorem dX6_proof_2 : decode cX6_proof 2 = .ok (.putfield 93, 3) := by decide +kernel
theorem dX6_proof_5 : decode cX6_proof 5 = .ok (.aload_n 0, 1) := by decide +kernel
theorem dX6_proof_6 : decode cX6_proof 6 = .ok (.iload_n 1, 1) := by decide +kernel
theorem dX6_proof_7 : decode cX6_proof 7 = .ok (.invokevirtual 236, 3) := by decide +kernel
theorem dX6_proof_10 : decode cX6_proof 10 = .ok (.istore_n 2, 1) := by decide +kernel
theorem dX6_proof_11 : decode cX6_proof 11 = .ok (.iload_n 2, 1) := by decide +kernel
theorem dX6_proof_12 : decode cX6_proof 12 = .ok (.ifCond .ne 9, 3) := by decide +kernel
theorem dX6_proof_15 : decode cX6_proof 15 = .ok (.aload_n 0, 1) := by decide +kernel
theorem dX6_proof_16 : decode cX6_proof 16 = .ok (.iconst 1, 1) := by decide +kernel
theorem dX6_proof_17 : decode cX6_proof 17 = .ok (.invokevirtual 208, 3) := by decide +kernel
theorem dX6_proof_20 : decode cX6_proof 20 = .ok (.ireturn, 1) := by decide +kernel
theorem dX6_proof_21 : decode cX6_proof 21 = .ok (.aload_n 0, 1) := by decide +kernel
theorem dX6_proof_22 : decode cX6_proof 22 = .ok (.getfield 187, 3) := by decide +kernel
theorem dX6_proof_25 : decode cX6_proof 25 = .ok (.bipush 40, 2) := by decide +kernel
theorem dX6_proof_27 : decode cX6_proof 27 = .ok (.if_icmp .eq 17, 3) := by decide +kernel
theorem dX6_proof_30 : decode cX6_proof 30 = .ok (.aload_n 0, 1) := by decide +kernel
theorem dX6_proof_31 : decode cX6_proof 31 = .ok (.getfield 187, 3) := by decide +kernel
theorem dX6_proof_34 : decode cX6_proof 34 = .ok (.ifCond .le 16, 3) := by decide +kernel
theorem dX6_proof_37 : decode cX6_proof 37 = .ok (.aload_n 0, 1) := by decide +kernel
theorem dX6_proof_38 : decode cX6_proof 38 = .ok (.invokevirtual 239, 3) := by decide +kernel
theorem dX6_proof_41 : decode cX6_proof 41 = .ok (.ifCond .ne 9, 3) := by decide +kernel
theorem dX6_proof_44 : decode cX6_proof 44 = .ok (.aload_n 0, 1) := by decide +kernel
theorem dX6_proof_45 : decode cX6_proof 45 = .ok (.iconst 2, 1) := by decide +kernel
theorem dX6_proof_46 : decode cX6_proof 46 = .ok (.invokevirtual 208, 3) := by decide +kernel
theorem dX6_proof_49 : decode cX6_proof 49 = .ok (.ireturn, 1) := by decide +kernel
theorem dX6_proof_50 : decode cX6_proof 50 = .ok (.aload_n 0, 1) := by decide +kernel
theorem dX6_proof_51 : decode cX6_proof 51 = .ok (.iconst 1, 1) := by decide +kernel
theorem dX6_proof_52 : decode cX6_proof 52 = .ok (.iload_n 2, 1) := by decide +kernel
theorem dX6_proof_53 : decode cX6_proof 53 = .ok (.invokevirtual 243, 3) := by decide +kernel
theorem dX6_proof_56 : decode cX6_proof 56 = .ok (.ireturn, 1) := by decide +kernel
theorem dX6_let_0 : decode cX6_let 0 = .ok (.aload_n 0, 1) := by decide +kernel
theorem dX6_let_1 : decode cX6_let 1 = .ok (.iconst 0, 1) := by decide +kernel
theorem dX6_let_2 : decode cX6_let 2 = .ok (.putfield 93, 3) := by decide +kernel
theorem dX6_let_5 : decode cX6_let 5 = .ok (.aload_n 0, 1) := by decide +kernel
theorem dX6_let_6 : decode cX6_let 6 = .ok (.invokevirtual 239, 3) := by decide +kernel
theorem dX6_let_9 : decode cX6_let 9 = .ok (.ifCond .eq 13, 3) := by decide +kernel
theorem dX6_let_12 : decode cX6_let 12 = .ok (.aload_n 0, 1) := by decide +kernel
theorem dX6_let_13 : decode cX6_let 13 = .ok (.getfield 205, 3) := by decide +kernel
theorem dX6_let_16 : decode cX6_let 16 = .ok (.sipush 1000, 3) := by decide +kernel
theorem dX6_let_19 : decode cX6_let 19 = .ok (.if_icmp .ne 9, 3) := by decide +kernel
theorem dX6_let_22 : decode cX6_let 22 = .ok (.aload_n 0, 1) := by decide +kernel
theorem dX6_let_23 : decode cX6_let 23 = .ok (.iconst 1, 1) := by decide +kernel
theorem dX6_let_24 : decode cX6_let 24 = .ok (.invokevirtual 208, 3) := by decide +kernel
theorem dX6_let_27 : decode cX6_let 27 = .ok (.ireturn, 1) := by decide +kernel
theorem dX6_let_28 : decode cX6_let 28 = .ok (.aload_n 0, 1) := by decide +kernel
theorem dX6_let_29 : decode cX6_let 29 = .ok (.iconst 0, 1) := by decide +kernel
theorem dX6_let_30 : decode cX6_let 30 = .ok (.aload_n 0, 1) := by decide +kernel
theorem dX6_let_31 : decode cX6_let 31 = .ok (.dup, 1) := by decide +kernel
theorem dX6_let_32 : decode cX6_let 32 = .ok (.getfield 224, 3) := by decide +kernel
theorem dX6_let_35 : decode cX6_let 35 = .ok (.dup_x1, 1) := by decide +kernel
theorem dX6_let_36 : decode cX6_let 36 = .ok (.iconst 1, 1) := by decide +kernel
theorem dX6_let_37 : decode cX6_let 37 = .ok (.iadd, 1) := by decide +kernel
theorem dX6_let_38 : decode cX6_let 38 = .ok (.putfield 224, 3) := by decide +kernel
theorem dX6_let_41 : decode cX6_let 41 = .ok (.invokevirtual 141, 3) := by decide +kernel
theorem dX6_let_44 : decode cX6_let 44 = .ok (.istore_n 1, 1) := by decide +kernel
theorem dX6_let_45 : decode cX6_let 45 = .ok (.aload_n 0, 1) := by decide +kernel
theorem dX6_let_46 : decode cX6_let 46 = .ok (.iconst 0, 1) := by decide +kernel
theorem dX6_let_47 : decode cX6_let 47 = .ok (.iload_n 1, 1) := by decide +kernel
theorem dX6_let_48 : decode cX6_let 48 = .ok (.iload_n 1, 1) := by decide +kernel
theorem dX6_let_49 : decode cX6_let 49 = .ok (.invokevirtual 246, 3) := by decide +kernel
theorem dX6_let_52 : decode cX6_let 52 = .ok (.aload_n 0, 1) := by decide +kernel
theorem dX6_let_53 : decode cX6_let 53 = .ok (.iload_n 1, 1) := by decide +kernel
theorem dX6_let_54 : decode cX6_let 54 = .ok (.iconst 1, 1) := by decide +kernel
theorem dX6_let_55 : decode cX6_let 55 = .ok (.invokevirtual 227, 3) := by decide +kernel
theorem dX6_let_58 : decode cX6_let 58 = .ok (.ireturn, 1) := by decide +kernel
theorem dX6_stepOf_0 : decode cX6_stepOf 0 = .ok (.aload_n 0, 1) := by decide +kernel
theorem dX6_stepOf_1 : decode cX6_stepOf 1 = .ok (.iconst 0, 1) := by decide +kernel
theorem dX6_stepOf_2 : decode cX6_stepOf 2 = .ok (.putfield 93, 3) := by decide +kernel
theorem dX6_stepOf_5 : decode cX6_stepOf 5 = .ok (.aload_n 0, 1) := by decide +kernel
theorem dX6_stepOf_6 : decode cX6_stepOf 6 = .ok (.iload_n 2, 1) := by decide +kernel
theorem dX6_stepOf_7 : decode cX6_stepOf 7 = .ok (.invokevirtual 236, 3) := by decide +kernel
theorem dX6_stepOf_10 : decode cX6_stepOf 10 = .ok (.istore_n 3, 1) := by decide +kernel
theorem dX6_stepOf_11 : decode cX6_stepOf 11 = .ok (.iload_n 3, 1) := by decide +kernel
theorem dX6_stepOf_12 : decode cX6_stepOf 12 = .ok (.ifCond .ne 17, 3) := by decide +kernel
theorem dX6_stepOf_15 : decode cX6_stepOf 15 = .ok (.aload_n 0, 1) := by decide +kernel
theorem dX6_stepOf_16 : decode cX6_stepOf 16 = .ok (.iconst 1, 1) := by decide +kernel
theorem dX6_stepOf_17 : decode cX6_stepOf 17 = .ok (.invokevirtual 208, 3) := by decide +kernel
theorem dX6_stepOf_20 : decode cX6_stepOf 20 = .ok (.ifCond .le 7, 3) := by decide +kernel
theorem dX6_stepOf_23 : decode cX6_stepOf 23 = .ok (.iconst 1, 1) := by decide +kernel
theorem dX6_stepOf_24 : decode cX6_stepOf 24 = .ok (.goto 4, 3) := by decide +kernel
theorem dX6_stepOf_27 : decode cX6_stepOf 27 = .ok (.iconst 0, 1) := by decide +kernel
theorem dX6_stepOf_28 : decode cX6_stepOf 28 = .ok (.ireturn, 1) := by decide +kernel
theorem dX6_stepOf_29 : decode cX6_stepOf 29 = .ok (.aload_n 0, 1) := by decide +kernel
theorem dX6_stepOf_30 : decode cX6_stepOf 30 = .ok (.invokevirtual 239, 3) := by decide +kernel
theorem dX6_stepOf_33 : decode cX6_stepOf 33 = .ok (.ifCond .ne 17, 3) := by decide +kernel
theorem dX6_stepOf_36 : decode cX6_stepOf 36 = .ok (.aload_n 0, 1) := by decide +kernel
theorem dX6_stepOf_37 : decode cX6_stepOf 37 = .ok (.iconst 2, 1) := by decide +kernel
theorem dX6_stepOf_38 : decode cX6_stepOf 38 = .ok (.invokevirtual 208, 3) := by decide +kernel
theorem dX6_stepOf_41 : decode cX6_stepOf 41 = .ok (.ifCond .le 7, 3) := by decide +kernel
theorem dX6_stepOf_44 : decode cX6_stepOf 44 = .ok (.iconst 1, 1) := by decide +kernel
theorem dX6_stepOf_45 : decode cX6_stepOf 45 = .ok (.goto 4, 3) := by decide +kernel
theorem dX6_stepOf_48 : decode cX6_stepOf 48 = .ok (.iconst 0, 1) := by decide +kernel
theorem dX6_stepOf_49 : decode cX6_stepOf 49 = .ok (.ireturn, 1) := by decide +kernel
theorem dX6_stepOf_50 : decode cX6_stepOf 50 = .ok (.aload_n 0, 1) := by decide +kernel
theorem dX6_stepOf_51 : decode cX6_stepOf 51 = .ok (.iload_n 1, 1) := by decide +kernel
theorem dX6_stepOf_52 : decode cX6_stepOf 52 = .ok (.iload_n 3, 1) := by decide +kernel
theorem dX6_stepOf_53 : decode cX6_stepOf 53 = .ok (.iconst 0, 1) := by decide +kernel
theorem dX6_stepOf_54 : decode cX6_stepOf 54 = .ok (.invokevirtual 246, 3) := by decide +kernel
theorem dX6_stepOf_57 : decode cX6_stepOf 57 = .ok (.aload_n 0, 1) := by decide +kernel
theorem dX6_stepOf_58 : decode cX6_stepOf 58 = .ok (.getfield 86, 3) := by decide +kernel
theorem dX6_stepOf_61 : decode cX6_stepOf 61 = .ok (.ireturn, 1) := by decide +kernel
theorem dX6_assume_0 : decode cX6_assume 0 = .ok (.aload_n 0, 1) := by decide +kernel
theorem dX6_assume_1 : decode cX6_assume 1 = .ok (.iconst 1, 1) := by decide +kernel
theorem dX6_assume_2 : decode cX6_assume 2 = .ok (.iload_n 1, 1) := by decide +kernel
theorem dX6_assume_3 : decode cX6_assume 3 = .ok (.invokevirtual 250, 3) := by decide +kernel
theorem dX6_assume_6 : decode cX6_assume 6 = .ok (.ireturn, 1) := by decide +kernel
theorem dX6_thus_0 : decode cX6_thus 0 = .ok (.aload_n 0, 1) := by decide +kernel
theorem dX6_thus_1 : decode cX6_thus 1 = .ok (.iconst 2, 1) := by decide +kernel
theorem dX6_thus_2 : decode cX6_thus 2 = .ok (.iload_n 1, 1) := by decide +kernel
theorem dX6_thus_3 : decode cX6_thus 3 = .ok (.invokevirtual 250, 3) := by decide +kernel
theorem dX6_thus_6 : decode cX6_thus 6 = .ok (.ireturn, 1) := by decide +kernel
theorem dX6_take_0 : decode cX6_take 0 = .ok (.aload_n 0, 1) := by decide +kernel
theorem dX6_take_1 : decode cX6_take 1 = .ok (.iconst 0, 1) := by decide +kernel
theorem dX6_take_2 : decode cX6_take 2 = .ok (.putfield 93, 3) := by decide +kernel
theorem dX6_take_5 : decode cX6_take 5 = .ok (.aload_n 0, 1) := by decide +kernel
theorem dX6_take_6 : decode cX6_take 6 = .ok (.iload_n 1, 1) := by decide +kernel
theorem dX6_take_7 : decode cX6_take 7 = .ok (.invokevirtual 233, 3) := by decide +kernel
theorem dX6_take_10 : decode cX6_take 10 = .ok (.istore_n 2, 1) := by decide +kernel
theorem dX6_take_11 : decode cX6_take 11 = .ok (.iload_n 2, 1) := by decide +kernel
theorem dX6_take_12 : decode cX6_take 12 = .ok (.ifCond .ne 17, 3) := by decide +kernel
theorem dX6_take_15 : decode cX6_take 15 = .ok (.aload_n 0, 1) := by decide +kernel
theorem dX6_take_16 : decode cX6_take 16 = .ok (.iconst 1, 1) := by decide +kernel
theorem dX6_take_17 : decode cX6_take 17 = .ok (.invokevirtual 208, 3) := by decide +kernel
theorem dX6_take_20 : decode cX6_take 20 = .ok (.ifCond .le 7, 3) := by decide +kernel
theorem dX6_take_23 : decode cX6_take 23 = .ok (.iconst 1, 1) := by decide +kernel
theorem dX6_take_24 : decode cX6_take 24 = .ok (.goto 4, 3) := by decide +kernel
theorem dX6_take_27 : decode cX6_take 27 = .ok (.iconst 0, 1) := by decide +kernel
theorem dX6_take_28 : decode cX6_take 28 = .ok (.ireturn, 1) := by decide +kernel
theorem dX6_take_29 : decode cX6_take 29 = .ok (.aload_n 0, 1) := by decide +kernel
theorem dX6_take_30 : decode cX6_take 30 = .ok (.invokevirtual 239, 3) := by decide +kernel
theorem dX6_take_33 : decode cX6_take 33 = .ok (.ifCond .eq 18, 3) := by decide +kernel
theorem dX6_take_36 : decode cX6_take 36 = .ok (.aload_n 0, 1) := by decide +kernel
theorem dX6_take_37 : decode cX6_take 37 = .ok (.getfield 52, 3) := by decide +kernel
theorem dX6_take_40 : decode cX6_take 40 = .ok (.aload_n 0, 1) := by decide +kernel
theorem dX6_take_41 : decode cX6_take 41 = .ok (.getfield 187, 3) := by decide +kernel
theorem dX6_take_44 : decode cX6_take 44 = .ok (.iconst 1, 1) := by decide +kernel
theorem dX6_take_45 : decode cX6_take 45 = .ok (.isub, 1) := by decide +kernel
theorem dX6_take_46 : decode cX6_take 46 = .ok (.iaload, 1) := by decide +kernel
theorem dX6_take_47 : decode cX6_take 47 = .ok (.iconst 2, 1) := by decide +kernel
theorem dX6_take_48 : decode cX6_take 48 = .ok (.if_icmp .ne 17, 3) := by decide +kernel
theorem dX6_take_51 : decode cX6_take 51 = .ok (.aload_n 0, 1) := by decide +kernel
theorem dX6_take_52 : decode cX6_take 52 = .ok (.iconst 2, 1) := by decide +kernel
theorem dX6_take_53 : decode cX6_take 53 = .ok (.invokevirtual 208, 3) := by decide +kernel
theorem dX6_take_56 : decode cX6_take 56 = .ok (.ifCond .le 7, 3) := by decide +kernel
theorem dX6_take_59 : decode cX6_take 59 = .ok (.iconst 1, 1) := by decide +kernel
theorem dX6_take_60 : decode cX6_take 60 = .ok (.goto 4, 3) := by decide +kernel
theorem dX6_take_63 : decode cX6_take 63 = .ok (.iconst 0, 1) := by decide +kernel
theorem dX6_take_64 : decode cX6_take 64 = .ok (.ireturn, 1) := by decide +kernel
theorem dX6_take_65 : decode cX6_take 65 = .ok (.aload_n 0, 1) := by decide +kernel
theorem dX6_take_66 : decode cX6_take 66 = .ok (.iconst 3, 1) := by decide +kernel
theorem dX6_take_67 : decode cX6_take 67 = .ok (.iload_n 2, 1) := by decide +kernel
theorem dX6_take_68 : decode cX6_take 68 = .ok (.iconst 0, 1) := by decide +kernel
theorem dX6_take_69 : decode cX6_take 69 = .ok (.invokevirtual 246, 3) := by decide +kernel
theorem dX6_take_72 : decode cX6_take 72 = .ok (.aload_n 0, 1) := by decide +kernel
theorem dX6_take_73 : decode cX6_take 73 = .ok (.getfield 86, 3) := by decide +kernel
theorem dX6_take_76 : decode cX6_take 76 = .ok (.ireturn, 1) := by decide +kernel
theorem dX6_given_0 : decode cX6_given 0 = .ok (.aload_n 0, 1) := by decide +kernel
theorem dX6_given_1 : decode cX6_given 1 = .ok (.iconst 0, 1) := by decide +kernel
theorem dX6_given_2 : decode cX6_given 2 = .ok (.putfield 93, 3) := by decide +kernel
theorem dX6_given_5 : decode cX6_given 5 = .ok (.aload_n 0, 1) := by decide +kernel
theorem dX6_given_6 : decode cX6_given 6 = .ok (.iload_n 1, 1) := by decide +kernel
theorem dX6_given_7 : decode cX6_given 7 = .ok (.invokevirtual 233, 3) := by decide +kernel
theorem dX6_given_10 : decode cX6_given 10 = .ok (.istore_n 3, 1) := by decide +kernel
theorem dX6_given_11 : decode cX6_given 11 = .ok (.aload_n 0, 1) := by decide +kernel
theorem dX6_given_12 : decode cX6_given 12 = .ok (.iload_n 2, 1) := by decide +kernel
theorem dX6_given_13 : decode cX6_given 13 = .ok (.invokevirtual 236, 3) := by decide +kernel
theorem dX6_given_16 : decode cX6_given 16 = .ok (.istore 4, 2) := by decide +kernel
theorem dX6_given_18 : decode cX6_given 18 = .ok (.iload_n 3, 1) := by decide +kernel
theorem dX6_given_19 : decode cX6_given 19 = .ok (.ifCond .eq 8, 3) := by decide +kernel
theorem dX6_given_22 : decode cX6_given 22 = .ok (.iload 4, 2) := by decide +kernel
theorem dX6_given_24 : decode cX6_given 24 = .ok (.ifCond .ne 17, 3) := by decide +kernel
theorem dX6_given_27 : decode cX6_given 27 = .ok (.aload_n 0, 1) := by decide +kernel
theorem dX6_given_28 : decode cX6_given 28 = .ok (.iconst 1, 1) := by decide +kernel
theorem dX6_given_29 : decode cX6_given 29 = .ok (.invokevirtual 208, 3) := by decide +kernel
theorem dX6_given_32 : decode cX6_given 32 = .ok (.ifCond .le 7, 3) := by decide +kernel
theorem dX6_given_35 : decode cX6_given 35 = .ok (.iconst 1, 1) := by decide +kernel
theorem dX6_given_36 : decode cX6_given 36 = .ok (.goto 4, 3) := by decide +kernel
theorem dX6_given_39 : decode cX6_given 39 = .ok (.iconst 0, 1) := by decide +kernel
theorem dX6_given_40 : decode cX6_given 40 = .ok (.ireturn, 1) := by decide +kernel
theorem dX6_given_41 : decode cX6_given 41 = .ok (.aload_n 0, 1) := by decide +kernel
theorem dX6_given_42 : decode cX6_given 42 = .ok (.invokevirtual 239, 3) := by decide +kernel
theorem dX6_given_45 : decode cX6_given 45 = .ok (.ifCond .ne 17, 3) := by decide +kernel
theorem dX6_given_48 : decode cX6_given 48 = .ok (.aload_n 0, 1) := by decide +kernel
theorem dX6_given_49 : decode cX6_given 49 = .ok (.iconst 2, 1) := by decide +kernel
theorem dX6_given_50 : decode cX6_given 50 = .ok (.invokevirtual 208, 3) := by decide +kernel
theorem dX6_given_53 : decode cX6_given 53 = .ok (.ifCond .le 7, 3) := by decide +kernel
theorem dX6_given_56 : decode cX6_given 56 = .ok (.iconst 1, 1) := by decide +kernel
theorem dX6_given_57 : decode cX6_given 57 = .ok (.goto 4, 3) := by decide +kernel
theorem dX6_given_60 : decode cX6_given 60 = .ok (.iconst 0, 1) := by decide +kernel
theorem dX6_given_61 : decode cX6_given 61 = .ok (.ireturn, 1) := by decide +kernel
theorem dX6_given_62 : decode cX6_given 62 = .ok (.aload_n 0, 1) := by decide +kernel
theorem dX6_given_63 : decode cX6_given 63 = .ok (.iconst 4, 1) := by decide +kernel
theorem dX6_given_64 : decode cX6_given 64 = .ok (.iload 4, 2) := by decide +kernel
theorem dX6_given_66 : decode cX6_given 66 = .ok (.iload_n 3, 1) := by decide +kernel
theorem dX6_given_67 : decode cX6_given 67 = .ok (.invokevirtual 246, 3) := by decide +kernel
theorem dX6_given_70 : decode cX6_given 70 = .ok (.aload_n 0, 1) := by decide +kernel
theorem dX6_given_71 : decode cX6_given 71 = .ok (.getfield 86, 3) := by decide +kernel
theorem dX6_given_74 : decode cX6_given 74 = .ok (.ireturn, 1) := by decide +kernel
theorem dX6_cases_0 : decode cX6_cases 0 = .ok (.aload_n 0, 1) := by decide +kernel
theorem dX6_cases_1 : decode cX6_cases 1 = .ok (.iconst 0, 1) := by decide +kernel
theorem dX6_cases_2 : decode cX6_cases 2 = .ok (.putfield 93, 3) := by decide +kernel
theorem dX6_cases_5 : decode cX6_cases 5 = .ok (.aload_n 0, 1) := by decide +kernel
theorem dX6_cases_6 : decode cX6_cases 6 = .ok (.invokevirtual 239, 3) := by decide +kernel
theorem dX6_cases_9 : decode cX6_cases 9 = .ok (.ifCond .eq 18, 3) := by decide +kernel
theorem dX6_cases_12 : decode cX6_cases 12 = .ok (.aload_n 0, 1) := by decide +kernel
theorem dX6_cases_13 : decode cX6_cases 13 = .ok (.getfield 52, 3) := by decide +kernel
theorem dX6_cases_16 : decode cX6_cases 16 = .ok (.aload_n 0, 1) := by decide +kernel
theorem dX6_cases_17 : decode cX6_cases 17 = .ok (.getfield 187, 3) := by decide +kernel
theorem dX6_cases_20 : decode cX6_cases 20 = .ok (.iconst 1, 1) := by decide +kernel
theorem dX6_cases_21 : decode cX6_cases 21 = .ok (.isub, 1) := by decide +kernel
theorem dX6_cases_22 : decode cX6_cases 22 = .ok (.iaload, 1) := by decide +kernel
theorem dX6_cases_23 : decode cX6_cases 23 = .ok (.iconst 2, 1) := by decide +kernel
theorem dX6_cases_24 : decode cX6_cases 24 = .ok (.if_icmp .ne 10, 3) := by decide +kernel
theorem dX6_cases_27 : decode cX6_cases 27 = .ok (.aload_n 0, 1) := by decide +kernel
theorem dX6_cases_28 : decode cX6_cases 28 = .ok (.iconst 1, 1) := by decide +kernel
theorem dX6_cases_29 : decode cX6_cases 29 = .ok (.invokevirtual 208, 3) := by decide +kernel
theorem dX6_cases_32 : decode cX6_cases 32 = .ok (.pop, 1) := by decide +kernel
theorem dX6_cases_33 : decode cX6_cases 33 = .ok (.return_, 1) := by decide +kernel
theorem dX6_cases_34 : decode cX6_cases 34 = .ok (.aload_n 0, 1) := by decide +kernel
theorem dX6_cases_35 : decode cX6_cases 35 = .ok (.getfield 187, 3) := by decide +kernel
theorem dX6_cases_38 : decode cX6_cases 38 = .ok (.iconst 1, 1) := by decide +kernel
theorem dX6_cases_39 : decode cX6_cases 39 = .ok (.isub, 1) := by decide +kernel
theorem dX6_cases_40 : decode cX6_cases 40 = .ok (.istore_n 1, 1) := by decide +kernel
theorem dX6_cases_41 : decode cX6_cases 41 = .ok (.aload_n 0, 1) := by decide +kernel
theorem dX6_cases_42 : decode cX6_cases 42 = .ok (.getfield 67, 3) := by decide +kernel
theorem dX6_cases_45 : decode cX6_cases 45 = .ok (.iload_n 1, 1) := by decide +kernel
theorem dX6_cases_46 : decode cX6_cases 46 = .ok (.iconst 1, 1) := by decide +kernel
theorem dX6_cases_47 : decode cX6_cases 47 = .ok (.bastore, 1) := by decide +kernel
theorem dX6_cases_48 : decode cX6_cases 48 = .ok (.aload_n 0, 1) := by decide +kernel
theorem dX6_cases_49 : decode cX6_cases 49 = .ok (.getfield 71, 3) := by decide +kernel
theorem dX6_cases_52 : decode cX6_cases 52 = .ok (.iload_n 1, 1) := by decide +kernel
theorem dX6_cases_53 : decode cX6_cases 53 = .ok (.iconst 1, 1) := by decide +kernel
theorem dX6_cases_54 : decode cX6_cases 54 = .ok (.bastore, 1) := by decide +kernel
theorem dX6_cases_55 : decode cX6_cases 55 = .ok (.aload_n 0, 1) := by decide +kernel
theorem dX6_cases_56 : decode cX6_cases 56 = .ok (.getfield 58, 3) := by decide +kernel
theorem dX6_cases_59 : decode cX6_cases 59 = .ok (.iload_n 1, 1) := by decide +kernel
theorem dX6_cases_60 : decode cX6_cases 60 = .ok (.iconst 0, 1) := by decide +kernel
theorem dX6_cases_61 : decode cX6_cases 61 = .ok (.iastore, 1) := by decide +kernel
theorem dX6_cases_62 : decode cX6_cases 62 = .ok (.aload_n 0, 1) := by decide +kernel
theorem dX6_cases_63 : decode cX6_cases 63 = .ok (.getfield 64, 3) := by decide +kernel
theorem dX6_cases_66 : decode cX6_cases 66 = .ok (.iload_n 1, 1) := by decide +kernel
theorem dX6_cases_67 : decode cX6_cases 67 = .ok (.aload_n 0, 1) := by decide +kernel
theorem dX6_cases_68 : decode cX6_cases 68 = .ok (.getfield 253, 3) := by decide +kernel
theorem dX6_cases_71 : decode cX6_cases 71 = .ok (.iastore, 1) := by decide +kernel
theorem dX6_cases_72 : decode cX6_cases 72 = .ok (.return_, 1) := by decide +kernel
theorem dX6_suppose_0 : decode cX6_suppose 0 = .ok (.aload_n 0, 1) := by decide +kernel
theorem dX6_suppose_1 : decode cX6_suppose 1 = .ok (.iconst 0, 1) := by decide +kernel
theorem dX6_suppose_2 : decode cX6_suppose 2 = .ok (.putfield 93, 3) := by decide +kernel
theorem dX6_suppose_5 : decode cX6_suppose 5 = .ok (.aload_n 0, 1) := by decide +kernel
theorem dX6_suppose_6 : decode cX6_suppose 6 = .ok (.iload_n 1, 1) := by decide +kernel
theorem dX6_suppose_7 : decode cX6_suppose 7 = .ok (.invokevirtual 236, 3) := by decide +kernel
theorem dX6_suppose_10 : decode cX6_suppose 10 = .ok (.istore_n 2, 1) := by decide +kernel
theorem dX6_suppose_11 : decode cX6_suppose 11 = .ok (.iload_n 2, 1) := by decide +kernel
theorem dX6_suppose_12 : decode cX6_suppose 12 = .ok (.ifCond .ne 9, 3) := by decide +kernel
theorem dX6_suppose_15 : decode cX6_suppose 15 = .ok (.aload_n 0, 1) := by decide +kernel
theorem dX6_suppose_16 : decode cX6_suppose 16 = .ok (.iconst 1, 1) := by decide +kernel
theorem dX6_suppose_17 : decode cX6_suppose 17 = .ok (.invokevirtual 208, 3) := by decide +kernel
theorem dX6_suppose_20 : decode cX6_suppose 20 = .ok (.ireturn, 1) := by decide +kernel
theorem dX6_suppose_21 : decode cX6_suppose 21 = .ok (.aload_n 0, 1) := by decide +kernel
theorem dX6_suppose_22 : decode cX6_suppose 22 = .ok (.getfield 187, 3) := by decide +kernel
theorem dX6_suppose_25 : decode cX6_suppose 25 = .ok (.ifCond .eq 26, 3) := by decide +kernel
theorem dX6_suppose_28 : decode cX6_suppose 28 = .ok (.aload_n 0, 1) := by decide +kernel
theorem dX6_suppose_29 : decode cX6_suppose 29 = .ok (.getfield 67, 3) := by decide +kernel
theorem dX6_suppose_32 : decode cX6_suppose 32 = .ok (.aload_n 0, 1) := by decide +kernel
theorem dX6_suppose_33 : decode cX6_suppose 33 = .ok (.getfield 187, 3) := by decide +kernel
theorem dX6_suppose_36 : decode cX6_suppose 36 = .ok (.iconst 1, 1) := by decide +kernel
theorem dX6_suppose_37 : decode cX6_suppose 37 = .ok (.isub, 1) := by decide +kernel
theorem dX6_suppose_38 : decode cX6_suppose 38 = .ok (.baload, 1) := by decide +kernel
theorem dX6_suppose_39 : decode cX6_suppose 39 = .ok (.ifCond .eq 12, 3) := by decide +kernel
theorem dX6_suppose_42 : decode cX6_suppose 42 = .ok (.aload_n 0, 1) := by decide +kernel
theorem dX6_suppose_43 : decode cX6_suppose 43 = .ok (.getfield 187, 3) := by decide +kernel
theorem dX6_suppose_46 : decode cX6_suppose 46 = .ok (.bipush 40, 2) := by decide +kernel
theorem dX6_suppose_48 : decode cX6_suppose 48 = .ok (.if_icmp .ne 9, 3) := by decide +kernel
theorem dX6_suppose_51 : decode cX6_suppose 51 = .ok (.aload_n 0, 1) := by decide +kernel
theorem dX6_suppose_52 : decode cX6_suppose 52 = .ok (.iconst 2, 1) := by decide +kernel
theorem dX6_suppose_53 : decode cX6_suppose 53 = .ok (.invokevirtual 208, 3) := by decide +kernel
theorem dX6_suppose_56 : decode cX6_suppose 56 = .ok (.ireturn, 1) := by decide +kernel
theorem dX6_suppose_57 : decode cX6_suppose 57 = .ok (.aload_n 0, 1) := by decide +kernel
theorem dX6_suppose_58 : decode cX6_suppose 58 = .ok (.getfield 187, 3) := by decide +kernel
theorem dX6_suppose_61 : decode cX6_suppose 61 = .ok (.iconst 1, 1) := by decide +kernel
theorem dX6_suppose_62 : decode cX6_suppose 62 = .ok (.isub, 1) := by decide +kernel
theorem dX6_suppose_63 : decode cX6_suppose 63 = .ok (.istore_n 3, 1) := by decide +kernel
theorem dX6_suppose_64 : decode cX6_suppose 64 = .ok (.aload_n 0, 1) := by decide +kernel
theorem dX6_suppose_65 : decode cX6_suppose 65 = .ok (.getfield 58, 3) := by decide +kernel
theorem dX6_suppose_68 : decode cX6_suppose 68 = .ok (.iload_n 3, 1) := by decide +kernel
theorem dX6_suppose_69 : decode cX6_suppose 69 = .ok (.dup2, 1) := by decide +kernel
theorem dX6_suppose_70 : decode cX6_suppose 70 = .ok (.iaload, 1) := by decide +kernel
theorem dX6_suppose_71 : decode cX6_suppose 71 = .ok (.iconst 1, 1) := by decide +kernel
theorem dX6_suppose_72 : decode cX6_suppose 72 = .ok (.iadd, 1) := by decide +kernel
theorem dX6_suppose_73 : decode cX6_suppose 73 = .ok (.iastore, 1) := by decide +kernel
theorem dX6_suppose_74 : decode cX6_suppose 74 = .ok (.aload_n 0, 1) := by decide +kernel
theorem dX6_suppose_75 : decode cX6_suppose 75 = .ok (.aload_n 0, 1) := by decide +kernel
theorem dX6_suppose_76 : decode cX6_suppose 76 = .ok (.getfield 83, 3) := by decide +kernel
theorem dX6_suppose_79 : decode cX6_suppose 79 = .ok (.aload_n 0, 1) := by decide +kernel
theorem dX6_suppose_80 : decode cX6_suppose 80 = .ok (.getfield 253, 3) := by decide +kernel
theorem dX6_suppose_83 : decode cX6_suppose 83 = .ok (.invokestatic 106, 3) := by decide +kernel
theorem dX6_suppose_86 : decode cX6_suppose 86 = .ok (.putfield 83, 3) := by decide +kernel
theorem dX6_suppose_89 : decode cX6_suppose 89 = .ok (.aload_n 0, 1) := by decide +kernel
theorem dX6_suppose_90 : decode cX6_suppose 90 = .ok (.getfield 83, 3) := by decide +kernel
theorem dX6_suppose_93 : decode cX6_suppose 93 = .ok (.aload_n 0, 1) := by decide +kernel
theorem dX6_suppose_94 : decode cX6_suppose 94 = .ok (.dup, 1) := by decide +kernel
theorem dX6_suppose_95 : decode cX6_suppose 95 = .ok (.getfield 253, 3) := by decide +kernel
theorem dX6_suppose_98 : decode cX6_suppose 98 = .ok (.dup_x1, 1) := by decide +kernel
theorem dX6_suppose_99 : decode cX6_suppose 99 = .ok (.iconst 1, 1) := by decide +kernel
theorem dX6_suppose_100 : decode cX6_suppose 100 = .ok (.iadd, 1) := by decide +kernel
theorem dX6_suppose_101 : decode cX6_suppose 101 = .ok (.putfield 253, 3) := by decide +kernel
theorem dX6_suppose_104 : decode cX6_suppose 104 = .ok (.iload_n 2, 1) := by decide +kernel
theorem dX6_suppose_105 : decode cX6_suppose 105 = .ok (.iastore, 1) := by decide +kernel
theorem dX6_suppose_106 : decode cX6_suppose 106 = .ok (.aload_n 0, 1) := by decide +kernel
theorem dX6_suppose_107 : decode cX6_suppose 107 = .ok (.iconst 3, 1) := by decide +kernel
theorem dX6_suppose_108 : decode cX6_suppose 108 = .ok (.aload_n 0, 1) := by decide +kernel
theorem dX6_suppose_109 : decode cX6_suppose 109 = .ok (.getfield 55, 3) := by decide +kernel
theorem dX6_suppose_112 : decode cX6_suppose 112 = .ok (.iload_n 3, 1) := by decide +kernel
theorem dX6_suppose_113 : decode cX6_suppose 113 = .ok (.iaload, 1) := by decide +kernel
theorem dX6_suppose_114 : decode cX6_suppose 114 = .ok (.invokevirtual 243, 3) := by decide +kernel
theorem dX6_suppose_117 : decode cX6_suppose 117 = .ok (.ireturn, 1) := by decide +kernel
theorem dX6_end_0 : decode cX6_end 0 = .ok (.aload_n 0, 1) := by decide +kernel
theorem dX6_end_1 : decode cX6_end 1 = .ok (.iconst 0, 1) := by decide +kernel
theorem dX6_end_2 : decode cX6_end 2 = .ok (.putfield 93, 3) := by decide +kernel
theorem dX6_end_5 : decode cX6_end 5 = .ok (.aload_n 0, 1) := by decide +kernel
theorem dX6_end_6 : decode cX6_end 6 = .ok (.getfield 187, 3) := by decide +kernel
theorem dX6_end_9 : decode cX6_end 9 = .ok (.ifCond .ne 9, 3) := by decide +kernel
theorem dX6_end_12 : decode cX6_end 12 = .ok (.aload_n 0, 1) := by decide +kernel
theorem dX6_end_13 : decode cX6_end 13 = .ok (.iconst 1, 1) := by decide +kernel
theorem dX6_end_14 : decode cX6_end 14 = .ok (.invokevirtual 208, 3) := by decide +kernel
theorem dX6_end_17 : decode cX6_end 17 = .ok (.ireturn, 1) := by decide +kernel
theorem dX6_end_18 : decode cX6_end 18 = .ok (.aload_n 0, 1) := by decide +kernel
theorem dX6_end_19 : decode cX6_end 19 = .ok (.getfield 187, 3) := by decide +kernel
theorem dX6_end_22 : decode cX6_end 22 = .ok (.iconst 1, 1) := by decide +kernel
theorem dX6_end_23 : decode cX6_end 23 = .ok (.isub, 1) := by decide +kernel
theorem dX6_end_24 : decode cX6_end 24 = .ok (.istore_n 1, 1) := by decide +kernel
theorem dX6_end_25 : decode cX6_end 25 = .ok (.aload_n 0, 1) := by decide +kernel
theorem dX6_end_26 : decode cX6_end 26 = .ok (.getfield 52, 3) := by decide +kernel
theorem dX6_end_29 : decode cX6_end 29 = .ok (.iload_n 1, 1) := by decide +kernel
theorem dX6_end_30 : decode cX6_end 30 = .ok (.iaload, 1) := by decide +kernel
theorem dX6_end_31 : decode cX6_end 31 = .ok (.iconst 2, 1) := by decide +kernel
theorem dX6_end_32 : decode cX6_end 32 = .ok (.if_icmp .ne 85, 3) := by decide +kernel
theorem dX6_end_35 : decode cX6_end 35 = .ok (.aload_n 0, 1) := by decide +kernel
theorem dX6_end_36 : decode cX6_end 36 = .ok (.getfield 113, 3) := by decide +kernel
theorem dX6_end_39 : decode cX6_end 39 = .ok (.istore_n 2, 1) := by decide +kernel
theorem dX6_end_40 : decode cX6_end 40 = .ok (.aload_n 0, 1) := by decide +kernel
theorem dX6_end_41 : decode cX6_end 41 = .ok (.getfield 116, 3) := by decide +kernel
theorem dX6_end_44 : decode cX6_end 44 = .ok (.istore_n 3, 1) := by decide +kernel
theorem dX6_end_45 : decode cX6_end 45 = .ok (.aload_n 0, 1) := by decide +kernel
theorem dX6_end_46 : decode cX6_end 46 = .ok (.iload_n 1, 1) := by decide +kernel
theorem dX6_end_47 : decode cX6_end 47 = .ok (.invokevirtual 256, 3) := by decide +kernel
theorem dX6_end_50 : decode cX6_end 50 = .ok (.istore 4, 2) := by decide +kernel
theorem dX6_end_52 : decode cX6_end 52 = .ok (.aload_n 0, 1) := by decide +kernel
theorem dX6_end_53 : decode cX6_end 53 = .ok (.iload 4, 2) := by decide +kernel
theorem dX6_end_55 : decode cX6_end 55 = .ok (.iconst 1, 1) := by decide +kernel
theorem dX6_end_56 : decode cX6_end 56 = .ok (.invokevirtual 227, 3) := by decide +kernel
theorem dX6_end_59 : decode cX6_end 59 = .ok (.istore 5, 2) := by decide +kernel
theorem dX6_end_61 : decode cX6_end 61 = .ok (.aload_n 0, 1) := by decide +kernel
theorem dX6_end_62 : decode cX6_end 62 = .ok (.getfield 93, 3) := by decide +kernel
theorem dX6_end_65 : decode cX6_end 65 = .ok (.ifCond .eq 11, 3) := by decide +kernel
theorem dX6_end_68 : decode cX6_end 68 = .ok (.aload_n 0, 1) := by decide +kernel
theorem dX6_end_69 : decode cX6_end 69 = .ok (.iload_n 2, 1) := by decide +kernel
theorem dX6_end_70 : decode cX6_end 70 = .ok (.iload_n 3, 1) := by decide +kernel
theorem dX6_end_71 : decode cX6_end 71 = .ok (.invokevirtual 137, 3) := by decide +kernel
theorem dX6_end_74 : decode cX6_end 74 = .ok (.iconst 0, 1) := by decide +kernel
theorem dX6_end_75 : decode cX6_end 75 = .ok (.ireturn, 1) := by decide +kernel
theorem dX6_end_76 : decode cX6_end 76 = .ok (.aload_n 0, 1) := by decide +kernel
theorem dX6_end_77 : decode cX6_end 77 = .ok (.getfield 90, 3) := by decide +kernel
theorem dX6_end_80 : decode cX6_end 80 = .ok (.iload 5, 2) := by decide +kernel
theorem dX6_end_82 : decode cX6_end 82 = .ok (.aload_n 0, 1) := by decide +kernel
theorem dX6_end_83 : decode cX6_end 83 = .ok (.iload 4, 2) := by decide +kernel
theorem dX6_end_85 : decode cX6_end 85 = .ok (.iload_n 2, 1) := by decide +kernel
theorem dX6_end_86 : decode cX6_end 86 = .ok (.iload_n 3, 1) := by decide +kernel
theorem dX6_end_87 : decode cX6_end 87 = .ok (.invokevirtual 196, 3) := by decide +kernel
theorem dX6_end_90 : decode cX6_end 90 = .ok (.iastore, 1) := by decide +kernel
theorem dX6_end_91 : decode cX6_end 91 = .ok (.aload_n 0, 1) := by decide +kernel
theorem dX6_end_92 : decode cX6_end 92 = .ok (.aload_n 0, 1) := by decide +kernel
theorem dX6_end_93 : decode cX6_end 93 = .ok (.getfield 61, 3) := by decide +kernel
theorem dX6_end_96 : decode cX6_end 96 = .ok (.iload_n 1, 1) := by decide +kernel
theorem dX6_end_97 : decode cX6_end 97 = .ok (.iaload, 1) := by decide +kernel
theorem dX6_end_98 : decode cX6_end 98 = .ok (.putfield 190, 3) := by decide +kernel
theorem dX6_end_101 : decode cX6_end 101 = .ok (.aload_n 0, 1) := by decide +kernel
theorem dX6_end_102 : decode cX6_end 102 = .ok (.dup, 1) := by decide +kernel
theorem dX6_end_103 : decode cX6_end 103 = .ok (.getfield 187, 3) := by decide +kernel
theorem dX6_end_106 : decode cX6_end 106 = .ok (.iconst 1, 1) := by decide +kernel
theorem dX6_end_107 : decode cX6_end 107 = .ok (.isub, 1) := by decide +kernel
theorem dX6_end_108 : decode cX6_end 108 = .ok (.putfield 187, 3) := by decide +kernel
theorem dX6_end_111 : decode cX6_end 111 = .ok (.bipush (-2), 2) := by decide +kernel
theorem dX6_end_113 : decode cX6_end 113 = .ok (.iload 5, 2) := by decide +kernel
theorem dX6_end_115 : decode cX6_end 115 = .ok (.isub, 1) := by decide +kernel
theorem dX6_end_116 : decode cX6_end 116 = .ok (.ireturn, 1) := by decide +kernel
theorem dX6_end_117 : decode cX6_end 117 = .ok (.aload_n 0, 1) := by decide +kernel
theorem dX6_end_118 : decode cX6_end 118 = .ok (.getfield 67, 3) := by decide +kernel
theorem dX6_end_121 : decode cX6_end 121 = .ok (.iload_n 1, 1) := by decide +kernel
theorem dX6_end_122 : decode cX6_end 122 = .ok (.baload, 1) := by decide +kernel
theorem dX6_end_123 : decode cX6_end 123 = .ok (.ifCond .eq 29, 3) := by decide +kernel
theorem dX6_end_126 : decode cX6_end 126 = .ok (.aload_n 0, 1) := by decide +kernel
theorem dX6_end_127 : decode cX6_end 127 = .ok (.getfield 58, 3) := by decide +kernel
theorem dX6_end_130 : decode cX6_end 130 = .ok (.iload_n 1, 1) := by decide +kernel
theorem dX6_end_131 : decode cX6_end 131 = .ok (.iaload, 1) := by decide +kernel
theorem dX6_end_132 : decode cX6_end 132 = .ok (.ifCond .le 16, 3) := by decide +kernel
theorem dX6_end_135 : decode cX6_end 135 = .ok (.aload_n 0, 1) := by decide +kernel
theorem dX6_end_136 : decode cX6_end 136 = .ok (.getfield 71, 3) := by decide +kernel
theorem dX6_end_139 : decode cX6_end 139 = .ok (.iload_n 1, 1) := by decide +kernel
theorem dX6_end_140 : decode cX6_end 140 = .ok (.baload, 1) := by decide +kernel
theorem dX6_end_141 : decode cX6_end 141 = .ok (.ifCond .eq 7, 3) := by decide +kernel
theorem dX6_end_144 : decode cX6_end 144 = .ok (.iconst 1, 1) := by decide +kernel
theorem dX6_end_145 : decode cX6_end 145 = .ok (.goto 27, 3) := by decide +kernel
theorem dX6_end_148 : decode cX6_end 148 = .ok (.iconst 0, 1) := by decide +kernel
theorem dX6_end_149 : decode cX6_end 149 = .ok (.goto 23, 3) := by decide +kernel
theorem dX6_end_152 : decode cX6_end 152 = .ok (.aload_n 0, 1) := by decide +kernel
theorem dX6_end_153 : decode cX6_end 153 = .ok (.getfield 7, 3) := by decide +kernel
theorem dX6_end_156 : decode cX6_end 156 = .ok (.aload_n 0, 1) := by decide +kernel
theorem dX6_end_157 : decode cX6_end 157 = .ok (.getfield 55, 3) := by decide +kernel
theorem dX6_end_160 : decode cX6_end 160 = .ok (.iload_n 1, 1) := by decide +kernel
theorem dX6_end_161 : decode cX6_end 161 = .ok (.iaload, 1) := by decide +kernel
theorem dX6_end_162 : decode cX6_end 162 = .ok (.iaload, 1) := by decide +kernel
theorem dX6_end_163 : decode cX6_end 163 = .ok (.iconst 3, 1) := by decide +kernel
theorem dX6_end_164 : decode cX6_end 164 = .ok (.if_icmp .ne 7, 3) := by decide +kernel
theorem dX6_end_167 : decode cX6_end 167 = .ok (.iconst 1, 1) := by decide +kernel
theorem dX6_end_168 : decode cX6_end 168 = .ok (.goto 4, 3) := by decide +kernel
theorem dX6_end_171 : decode cX6_end 171 = .ok (.iconst 0, 1) := by decide +kernel
theorem dX6_end_172 : decode cX6_end 172 = .ok (.istore_n 2, 1) := by decide +kernel
theorem dX6_end_173 : decode cX6_end 173 = .ok (.aload_n 0, 1) := by decide +kernel
theorem dX6_end_174 : decode cX6_end 174 = .ok (.getfield 67, 3) := by decide +kernel
theorem dX6_end_177 : decode cX6_end 177 = .ok (.iload_n 1, 1) := by decide +kernel
theorem dX6_end_178 : decode cX6_end 178 = .ok (.baload, 1) := by decide +kernel
theorem dX6_end_179 : decode cX6_end 179 = .ok (.ifCond .eq 13, 3) := by decide +kernel
theorem dX6_end_182 : decode cX6_end 182 = .ok (.aload_n 0, 1) := by decide +kernel
theorem dX6_end_183 : decode cX6_end 183 = .ok (.aload_n 0, 1) := by decide +kernel
theorem dX6_end_184 : decode cX6_end 184 = .ok (.getfield 64, 3) := by decide +kernel
theorem dX6_end_187 : decode cX6_end 187 = .ok (.iload_n 1, 1) := by decide +kernel
theorem dX6_end_188 : decode cX6_end 188 = .ok (.iaload, 1) := by decide +kernel
theorem dX6_end_189 : decode cX6_end 189 = .ok (.putfield 253, 3) := by decide +kernel
theorem dX6_end_192 : decode cX6_end 192 = .ok (.aload_n 0, 1) := by decide +kernel
theorem dX6_end_193 : decode cX6_end 193 = .ok (.dup, 1) := by decide +kernel
theorem dX6_end_194 : decode cX6_end 194 = .ok (.getfield 187, 3) := by decide +kernel
theorem dX6_end_197 : decode cX6_end 197 = .ok (.iconst 1, 1) := by decide +kernel
theorem dX6_end_198 : decode cX6_end 198 = .ok (.isub, 1) := by decide +kernel
theorem dX6_end_199 : decode cX6_end 199 = .ok (.putfield 187, 3) := by decide +kernel
theorem dX6_end_202 : decode cX6_end 202 = .ok (.aload_n 0, 1) := by decide +kernel
theorem dX6_end_203 : decode cX6_end 203 = .ok (.getfield 52, 3) := by decide +kernel
theorem dX6_end_206 : decode cX6_end 206 = .ok (.iload_n 1, 1) := by decide +kernel
theorem dX6_end_207 : decode cX6_end 207 = .ok (.iaload, 1) := by decide +kernel
theorem dX6_end_208 : decode cX6_end 208 = .ok (.iconst 3, 1) := by decide +kernel
theorem dX6_end_209 : decode cX6_end 209 = .ok (.if_icmp .ne 16, 3) := by decide +kernel
theorem dX6_end_212 : decode cX6_end 212 = .ok (.iload_n 2, 1) := by decide +kernel
theorem dX6_end_213 : decode cX6_end 213 = .ok (.ifCond .ne 12, 3) := by decide +kernel
theorem dX6_end_216 : decode cX6_end 216 = .ok (.aload_n 0, 1) := by decide +kernel
theorem dX6_end_217 : decode cX6_end 217 = .ok (.getfield 71, 3) := by decide +kernel
theorem dX6_end_220 : decode cX6_end 220 = .ok (.iload_n 1, 1) := by decide +kernel
theorem dX6_end_221 : decode cX6_end 221 = .ok (.iconst 1, 1) := by decide +kernel
theorem dX6_end_222 : decode cX6_end 222 = .ok (.isub, 1) := by decide +kernel
theorem dX6_end_223 : decode cX6_end 223 = .ok (.iconst 0, 1) := by decide +kernel
theorem dX6_end_224 : decode cX6_end 224 = .ok (.bastore, 1) := by decide +kernel
theorem dX6_end_225 : decode cX6_end 225 = .ok (.iload_n 2, 1) := by decide +kernel
theorem dX6_end_226 : decode cX6_end 226 = .ok (.ifCond .eq 7, 3) := by decide +kernel
theorem dX6_end_229 : decode cX6_end 229 = .ok (.iconst 1, 1) := by decide +kernel
theorem dX6_end_230 : decode cX6_end 230 = .ok (.goto 4, 3) := by decide +kernel
theorem dX6_end_233 : decode cX6_end 233 = .ok (.iconst 0, 1) := by decide +kernel
theorem dX6_end_234 : decode cX6_end 234 = .ok (.ireturn, 1) := by decide +kernel
theorem dX6_thesis_0 : decode cX6_thesis 0 = .ok (.aload_n 0, 1) := by decide +kernel
theorem dX6_thesis_1 : decode cX6_thesis 1 = .ok (.iconst 0, 1) := by decide +kernel
theorem dX6_thesis_2 : decode cX6_thesis 2 = .ok (.putfield 93, 3) := by decide +kernel
theorem dX6_thesis_5 : decode cX6_thesis 5 = .ok (.aload_n 0, 1) := by decide +kernel
theorem dX6_thesis_6 : decode cX6_thesis 6 = .ok (.getfield 187, 3) := by decide +kernel
theorem dX6_thesis_9 : decode cX6_thesis 9 = .ok (.ifCond .ne 11, 3) := by decide +kernel
theorem dX6_thesis_12 : decode cX6_thesis 12 = .ok (.aload_n 0, 1) := by decide +kernel
theorem dX6_thesis_13 : decode cX6_thesis 13 = .ok (.iconst 1, 1) := by decide +kernel
theorem dX6_thesis_14 : decode cX6_thesis 14 = .ok (.invokevirtual 208, 3) := by decide +kernel
theorem dX6_thesis_17 : decode cX6_thesis 17 = .ok (.goto 19, 3) := by decide +kernel
theorem dX6_thesis_20 : decode cX6_thesis 20 = .ok (.aload_n 0, 1) := by decide +kernel
theorem dX6_thesis_21 : decode cX6_thesis 21 = .ok (.aload_n 0, 1) := by decide +kernel
theorem dX6_thesis_22 : decode cX6_thesis 22 = .ok (.getfield 55, 3) := by decide +kernel
theorem dX6_thesis_25 : decode cX6_thesis 25 = .ok (.aload_n 0, 1) := by decide +kernel
theorem dX6_thesis_26 : decode cX6_thesis 26 = .ok (.getfield 187, 3) := by decide +kernel
theorem dX6_thesis_29 : decode cX6_thesis 29 = .ok (.iconst 1, 1) := by decide +kernel
theorem dX6_thesis_30 : decode cX6_thesis 30 = .ok (.isub, 1) := by decide +kernel
theorem dX6_thesis_31 : decode cX6_thesis 31 = .ok (.iaload, 1) := by decide +kernel
theorem dX6_thesis_32 : decode cX6_thesis 32 = .ok (.iconst 1, 1) := by decide +kernel
theorem dX6_thesis_33 : decode cX6_thesis 33 = .ok (.invokevirtual 227, 3) := by decide +kernel
theorem dX6_thesis_36 : decode cX6_thesis 36 = .ok (.ireturn, 1) := by decide +kernel
theorem dX6_ways_0 : decode cX6_ways 0 = .ok (.aload_n 0, 1) := by decide +kernel
theorem dX6_ways_1 : decode cX6_ways 1 = .ok (.iconst 0, 1) := by decide +kernel
theorem dX6_ways_2 : decode cX6_ways 2 = .ok (.putfield 93, 3) := by decide +kernel
theorem dX6_ways_5 : decode cX6_ways 5 = .ok (.aload_n 0, 1) := by decide +kernel
theorem dX6_ways_6 : decode cX6_ways 6 = .ok (.getfield 187, 3) := by decide +kernel
theorem dX6_ways_9 : decode cX6_ways 9 = .ok (.ifCond .eq 17, 3) := by decide +kernel
theorem dX6_ways_12 : decode cX6_ways 12 = .ok (.aload_n 0, 1) := by decide +kernel
theorem dX6_ways_13 : decode cX6_ways 13 = .ok (.getfield 67, 3) := by decide +kernel
theorem dX6_ways_16 : decode cX6_ways 16 = .ok (.aload_n 0, 1) := by decide +kernel
theorem dX6_ways_17 : decode cX6_ways 17 = .ok (.getfield 187, 3) := by decide +kernel
theorem dX6_ways_20 : decode cX6_ways 20 = .ok (.iconst 1, 1) := by decide +kernel
theorem dX6_ways_21 : decode cX6_ways 21 = .ok (.isub, 1) := by decide +kernel
theorem dX6_ways_22 : decode cX6_ways 22 = .ok (.baload, 1) := by decide +kernel
theorem dX6_ways_23 : decode cX6_ways 23 = .ok (.ifCond .ne 9, 3) := by decide +kernel
theorem dX6_ways_26 : decode cX6_ways 26 = .ok (.aload_n 0, 1) := by decide +kernel
theorem dX6_ways_27 : decode cX6_ways 27 = .ok (.iconst 1, 1) := by decide +kernel
theorem dX6_ways_28 : decode cX6_ways 28 = .ok (.invokevirtual 208, 3) := by decide +kernel
theorem dX6_ways_31 : decode cX6_ways 31 = .ok (.ireturn, 1) := by decide +kernel
theorem dX6_ways_32 : decode cX6_ways 32 = .ok (.aload_n 0, 1) := by decide +kernel
theorem dX6_ways_33 : decode cX6_ways 33 = .ok (.getfield 187, 3) := by decide +kernel
theorem dX6_ways_36 : decode cX6_ways 36 = .ok (.iconst 1, 1) := by decide +kernel
theorem dX6_ways_37 : decode cX6_ways 37 = .ok (.isub, 1) := by decide +kernel
theorem dX6_ways_38 : decode cX6_ways 38 = .ok (.istore_n 1, 1) := by decide +kernel
theorem dX6_ways_39 : decode cX6_ways 39 = .ok (.aload_n 0, 1) := by decide +kernel
theorem dX6_ways_40 : decode cX6_ways 40 = .ok (.getfield 103, 3) := by decide +kernel
theorem dX6_ways_43 : decode cX6_ways 43 = .ok (.istore_n 2, 1) := by decide +kernel
theorem dX6_ways_44 : decode cX6_ways 44 = .ok (.aload_n 0, 1) := by decide +kernel
theorem dX6_ways_45 : decode cX6_ways 45 = .ok (.getfield 113, 3) := by decide +kernel
theorem dX6_ways_48 : decode cX6_ways 48 = .ok (.istore_n 3, 1) := by decide +kernel
theorem dX6_ways_49 : decode cX6_ways 49 = .ok (.aload_n 0, 1) := by decide +kernel
theorem dX6_ways_50 : decode cX6_ways 50 = .ok (.getfield 116, 3) := by decide +kernel
theorem dX6_ways_53 : decode cX6_ways 53 = .ok (.istore 4, 2) := by decide +kernel
theorem dX6_ways_55 : decode cX6_ways 55 = .ok (.iconst 0, 1) := by decide +kernel
theorem dX6_ways_56 : decode cX6_ways 56 = .ok (.istore 5, 2) := by decide +kernel
theorem dX6_ways_58 : decode cX6_ways 58 = .ok (.iconst 0, 1) := by decide +kernel
theorem dX6_ways_59 : decode cX6_ways 59 = .ok (.istore 6, 2) := by decide +kernel
theorem dX6_ways_61 : decode cX6_ways 61 = .ok (.iconst 0, 1) := by decide +kernel
theorem dX6_ways_62 : decode cX6_ways 62 = .ok (.istore 7, 2) := by decide +kernel
theorem dX6_ways_64 : decode cX6_ways 64 = .ok (.iload 7, 2) := by decide +kernel
theorem dX6_ways_66 : decode cX6_ways 66 = .ok (.aload_n 0, 1) := by decide +kernel
theorem dX6_ways_67 : decode cX6_ways 67 = .ok (.getfield 58, 3) := by decide +kernel
theorem dX6_ways_70 : decode cX6_ways 70 = .ok (.iload_n 1, 1) := by decide +kernel
theorem dX6_ways_71 : decode cX6_ways 71 = .ok (.iaload, 1) := by decide +kernel
theorem dX6_ways_72 : decode cX6_ways 72 = .ok (.if_icmp .ge 42, 3) := by decide +kernel
theorem dX6_ways_75 : decode cX6_ways 75 = .ok (.iload 6, 2) := by decide +kernel
theorem dX6_ways_77 : decode cX6_ways 77 = .ok (.aload_n 0, 1) := by decide +kernel
theorem dX6_ways_78 : decode cX6_ways 78 = .ok (.getfield 7, 3) := by decide +kernel
theorem dX6_ways_81 : decode cX6_ways 81 = .ok (.aload_n 0, 1) := by decide +kernel
theorem dX6_ways_82 : decode cX6_ways 82 = .ok (.getfield 83, 3) := by decide +kernel
theorem dX6_ways_85 : decode cX6_ways 85 = .ok (.aload_n 0, 1) := by decide +kernel
theorem dX6_ways_86 : decode cX6_ways 86 = .ok (.getfield 64, 3) := by decide +kernel
theorem dX6_ways_89 : decode cX6_ways 89 = .ok (.iload_n 1, 1) := by decide +kernel
theorem dX6_ways_90 : decode cX6_ways 90 = .ok (.iaload, 1) := by decide +kernel
theorem dX6_ways_91 : decode cX6_ways 91 = .ok (.iload 7, 2) := by decide +kernel
theorem dX6_ways_93 : decode cX6_ways 93 = .ok (.iadd, 1) := by decide +kernel
theorem dX6_ways_94 : decode cX6_ways 94 = .ok (.iaload, 1) := by decide +kernel
theorem dX6_ways_95 : decode cX6_ways 95 = .ok (.iaload, 1) := by decide +kernel
theorem dX6_ways_96 : decode cX6_ways 96 = .ok (.iconst 3, 1) := by decide +kernel
theorem dX6_ways_97 : decode cX6_ways 97 = .ok (.if_icmp .ne 7, 3) := by decide +kernel
theorem dX6_ways_100 : decode cX6_ways 100 = .ok (.iconst 1, 1) := by decide +kernel
theorem dX6_ways_101 : decode cX6_ways 101 = .ok (.goto 4, 3) := by decide +kernel
theorem dX6_ways_104 : decode cX6_ways 104 = .ok (.iconst 0, 1) := by decide +kernel
theorem dX6_ways_105 : decode cX6_ways 105 = .ok (.ior, 1) := by decide +kernel
theorem dX6_ways_106 : decode cX6_ways 106 = .ok (.istore 6, 2) := by decide +kernel
theorem dX6_ways_108 : decode cX6_ways 108 = .ok (.iinc 7 1, 3) := by decide +kernel
theorem dX6_ways_111 : decode cX6_ways 111 = .ok (.goto (-47), 3) := by decide +kernel
theorem dX6_ways_114 : decode cX6_ways 114 = .ok (.iconst 0, 1) := by decide +kernel
theorem dX6_ways_115 : decode cX6_ways 115 = .ok (.istore 7, 2) := by decide +kernel
theorem dX6_ways_117 : decode cX6_ways 117 = .ok (.iload 7, 2) := by decide +kernel
theorem dX6_ways_119 : decode cX6_ways 119 = .ok (.aload_n 0, 1) := by decide +kernel
theorem dX6_ways_120 : decode cX6_ways 120 = .ok (.getfield 58, 3) := by decide +kernel
theorem dX6_ways_123 : decode cX6_ways 123 = .ok (.iload_n 1, 1) := by decide +kernel
theorem dX6_ways_124 : decode cX6_ways 124 = .ok (.iaload, 1) := by decide +kernel
theorem dX6_ways_125 : decode cX6_ways 125 = .ok (.if_icmp .ge 89, 3) := by decide +kernel
theorem dX6_ways_128 : decode cX6_ways 128 = .ok (.iload 6, 2) := by decide +kernel
theorem dX6_ways_130 : decode cX6_ways 130 = .ok (.ifCond .ne 84, 3) := by decide +kernel
theorem dX6_ways_133 : decode cX6_ways 133 = .ok (.iload 5, 2) := by decide +kernel
theorem dX6_ways_135 : decode cX6_ways 135 = .ok (.sipush 200, 3) := by decide +kernel
theorem dX6_ways_138 : decode cX6_ways 138 = .ok (.if_icmp .ge 76, 3) := by decide +kernel
theorem dX6_ways_141 : decode cX6_ways 141 = .ok (.aload_n 0, 1) := by decide +kernel
theorem dX6_ways_142 : decode cX6_ways 142 = .ok (.aload_n 0, 1) := by decide +kernel
theorem dX6_ways_143 : decode cX6_ways 143 = .ok (.getfield 83, 3) := by decide +kernel
theorem dX6_ways_146 : decode cX6_ways 146 = .ok (.aload_n 0, 1) := by decide +kernel
theorem dX6_ways_147 : decode cX6_ways 147 = .ok (.getfield 64, 3) := by decide +kernel
theorem dX6_ways_150 : decode cX6_ways 150 = .ok (.iload_n 1, 1) := by decide +kernel
theorem dX6_ways_151 : decode cX6_ways 151 = .ok (.iaload, 1) := by decide +kernel
theorem dX6_ways_152 : decode cX6_ways 152 = .ok (.iload 7, 2) := by decide +kernel
theorem dX6_ways_154 : decode cX6_ways 154 = .ok (.iadd, 1) := by decide +kernel
theorem dX6_ways_155 : decode cX6_ways 155 = .ok (.iaload, 1) := by decide +kernel
theorem dX6_ways_156 : decode cX6_ways 156 = .ok (.invokevirtual 154, 3) := by decide +kernel
theorem dX6_ways_159 : decode cX6_ways 159 = .ok (.istore 8, 2) := by decide +kernel
theorem dX6_ways_161 : decode cX6_ways 161 = .ok (.aload_n 0, 1) := by decide +kernel
theorem dX6_ways_162 : decode cX6_ways 162 = .ok (.iload 8, 2) := by decide +kernel
theorem dX6_ways_164 : decode cX6_ways 164 = .ok (.invokevirtual 130, 3) := by decide +kernel
theorem dX6_ways_167 : decode cX6_ways 167 = .ok (.aload_n 0, 1) := by decide +kernel
theorem dX6_ways_168 : decode cX6_ways 168 = .ok (.getfield 7, 3) := by decide +kernel
theorem dX6_ways_171 : decode cX6_ways 171 = .ok (.iload 8, 2) := by decide +kernel
theorem dX6_ways_173 : decode cX6_ways 173 = .ok (.iaload, 1) := by decide +kernel
theorem dX6_ways_174 : decode cX6_ways 174 = .ok (.iconst 3, 1) := by decide +kernel
theorem dX6_ways_175 : decode cX6_ways 175 = .ok (.if_icmp .eq 33, 3) := by decide +kernel
theorem dX6_ways_178 : decode cX6_ways 178 = .ok (.iload 5, 2) := by decide +kernel
theorem dX6_ways_180 : decode cX6_ways 180 = .ok (.aload_n 0, 1) := by decide +kernel
theorem dX6_ways_181 : decode cX6_ways 181 = .ok (.getfield 22, 3) := by decide +kernel
theorem dX6_ways_184 : decode cX6_ways 184 = .ok (.iload 8, 2) := by decide +kernel
theorem dX6_ways_186 : decode cX6_ways 186 = .ok (.iaload, 1) := by decide +kernel
theorem dX6_ways_187 : decode cX6_ways 187 = .ok (.aload_n 0, 1) := by decide +kernel
theorem dX6_ways_188 : decode cX6_ways 188 = .ok (.getfield 7, 3) := by decide +kernel
theorem dX6_ways_191 : decode cX6_ways 191 = .ok (.iload 8, 2) := by decide +kernel
theorem dX6_ways_193 : decode cX6_ways 193 = .ok (.iaload, 1) := by decide +kernel
theorem dX6_ways_194 : decode cX6_ways 194 = .ok (.bipush 7, 2) := by decide +kernel
theorem dX6_ways_196 : decode cX6_ways 196 = .ok (.if_icmp .ne 7, 3) := by decide +kernel
theorem dX6_ways_199 : decode cX6_ways 199 = .ok (.iconst 1, 1) := by decide +kernel
theorem dX6_ways_200 : decode cX6_ways 200 = .ok (.goto 4, 3) := by decide +kernel
theorem dX6_ways_203 : decode cX6_ways 203 = .ok (.iconst 0, 1) := by decide +kernel
theorem dX6_ways_204 : decode cX6_ways 204 = .ok (.isub, 1) := by decide +kernel
theorem dX6_ways_205 : decode cX6_ways 205 = .ok (.iadd, 1) := by decide +kernel
theorem dX6_ways_206 : decode cX6_ways 206 = .ok (.istore 5, 2) := by decide +kernel
theorem dX6_ways_208 : decode cX6_ways 208 = .ok (.iinc 7 1, 3) := by decide +kernel
theorem dX6_ways_211 : decode cX6_ways 211 = .ok (.goto (-94), 3) := by decide +kernel
theorem dX6_ways_214 : decode cX6_ways 214 = .ok (.iload 6, 2) := by decide +kernel
theorem dX6_ways_216 : decode cX6_ways 216 = .ok (.ifCond .eq 10, 3) := by decide +kernel
theorem dX6_ways_219 : decode cX6_ways 219 = .ok (.aload_n 0, 1) := by decide +kernel
theorem dX6_ways_220 : decode cX6_ways 220 = .ok (.invokevirtual 147, 3) := by decide +kernel
theorem dX6_ways_223 : decode cX6_ways 223 = .ok (.goto 24, 3) := by decide +kernel
theorem dX6_ways_226 : decode cX6_ways 226 = .ok (.iload 5, 2) := by decide +kernel
theorem dX6_ways_228 : decode cX6_ways 228 = .ok (.sipush 200, 3) := by decide +kernel
theorem dX6_ways_231 : decode cX6_ways 231 = .ok (.if_icmp .ge 15, 3) := by decide +kernel
theorem dX6_ways_234 : decode cX6_ways 234 = .ok (.aload_n 0, 1) := by decide +kernel
theorem dX6_ways_235 : decode cX6_ways 235 = .ok (.aload_n 0, 1) := by decide +kernel
theorem dX6_ways_236 : decode cX6_ways 236 = .ok (.iload_n 2, 1) := by decide +kernel
theorem dX6_ways_237 : decode cX6_ways 237 = .ok (.invokevirtual 150, 3) := by decide +kernel
theorem dX6_ways_240 : decode cX6_ways 240 = .ok (.invokevirtual 154, 3) := by decide +kernel
theorem dX6_ways_243 : decode cX6_ways 243 = .ok (.goto 4, 3) := by decide +kernel
theorem dX6_ways_246 : decode cX6_ways 246 = .ok (.iconst 0, 1) := by decide +kernel
theorem dX6_ways_247 : decode cX6_ways 247 = .ok (.istore 7, 2) := by decide +kernel
theorem dX6_ways_249 : decode cX6_ways 249 = .ok (.aload_n 0, 1) := by decide +kernel
theorem dX6_ways_250 : decode cX6_ways 250 = .ok (.iload_n 2, 1) := by decide +kernel
theorem dX6_ways_251 : decode cX6_ways 251 = .ok (.putfield 103, 3) := by decide +kernel
theorem dX6_ways_254 : decode cX6_ways 254 = .ok (.iload 7, 2) := by decide +kernel
theorem dX6_ways_256 : decode cX6_ways 256 = .ok (.ifCond .ne 11, 3) := by decide +kernel
theorem dX6_ways_259 : decode cX6_ways 259 = .ok (.aload_n 0, 1) := by decide +kernel
theorem dX6_ways_260 : decode cX6_ways 260 = .ok (.iconst 1, 1) := by decide +kernel
theorem dX6_ways_261 : decode cX6_ways 261 = .ok (.invokevirtual 208, 3) := by decide +kernel
theorem dX6_ways_264 : decode cX6_ways 264 = .ok (.goto 10, 3) := by decide +kernel
theorem dX6_ways_267 : decode cX6_ways 267 = .ok (.aload_n 0, 1) := by decide +kernel
theorem dX6_ways_268 : decode cX6_ways 268 = .ok (.iload 7, 2) := by decide +kernel
theorem dX6_ways_270 : decode cX6_ways 270 = .ok (.iconst 1, 1) := by decide +kernel
theorem dX6_ways_271 : decode cX6_ways 271 = .ok (.invokevirtual 227, 3) := by decide +kernel
theorem dX6_ways_274 : decode cX6_ways 274 = .ok (.istore 8, 2) := by decide +kernel
theorem dX6_ways_276 : decode cX6_ways 276 = .ok (.aload_n 0, 1) := by decide +kernel
theorem dX6_ways_277 : decode cX6_ways 277 = .ok (.getfield 93, 3) := by decide +kernel
theorem dX6_ways_280 : decode cX6_ways 280 = .ok (.ifCond .eq 13, 3) := by decide +kernel
theorem dX6_ways_283 : decode cX6_ways 283 = .ok (.aload_n 0, 1) := by decide +kernel
theorem dX6_ways_284 : decode cX6_ways 284 = .ok (.iload_n 3, 1) := by decide +kernel
theorem dX6_ways_285 : decode cX6_ways 285 = .ok (.iload 4, 2) := by decide +kernel
theorem dX6_ways_287 : decode cX6_ways 287 = .ok (.invokevirtual 137, 3) := by decide +kernel
theorem dX6_ways_290 : decode cX6_ways 290 = .ok (.goto 19, 3) := by decide +kernel
theorem dX6_ways_293 : decode cX6_ways 293 = .ok (.aload_n 0, 1) := by decide +kernel
theorem dX6_ways_294 : decode cX6_ways 294 = .ok (.getfield 90, 3) := by decide +kernel
theorem dX6_ways_297 : decode cX6_ways 297 = .ok (.iload 8, 2) := by decide +kernel
theorem dX6_ways_299 : decode cX6_ways 299 = .ok (.aload_n 0, 1) := by decide +kernel
theorem dX6_ways_300 : decode cX6_ways 300 = .ok (.iload 7, 2) := by decide +kernel
theorem dX6_ways_302 : decode cX6_ways 302 = .ok (.iload_n 3, 1) := by decide +kernel
theorem dX6_ways_303 : decode cX6_ways 303 = .ok (.iload 4, 2) := by decide +kernel
theorem dX6_ways_305 : decode cX6_ways 305 = .ok (.invokevirtual 196, 3) := by decide +kernel
theorem dX6_ways_308 : decode cX6_ways 308 = .ok (.iastore, 1) := by decide +kernel
theorem dX6_ways_309 : decode cX6_ways 309 = .ok (.iload 8, 2) := by decide +kernel
theorem dX6_ways_311 : decode cX6_ways 311 = .ok (.ireturn, 1) := by decide +kernel
theorem dX6_about_0 : decode cX6_about 0 = .ok (.aload_n 0, 1) := by decide +kernel
theorem dX6_about_1 : decode cX6_about 1 = .ok (.iconst 0, 1) := by decide +kernel
theorem dX6_about_2 : decode cX6_about 2 = .ok (.putfield 93, 3) := by decide +kernel
theorem dX6_about_5 : decode cX6_about 5 = .ok (.aload_n 0, 1) := by decide +kernel
theorem dX6_about_6 : decode cX6_about 6 = .ok (.iload_n 1, 1) := by decide +kernel
theorem dX6_about_7 : decode cX6_about 7 = .ok (.invokevirtual 211, 3) := by decide +kernel
theorem dX6_about_10 : decode cX6_about 10 = .ok (.ifCond .eq 12, 3) := by decide +kernel
theorem dX6_about_13 : decode cX6_about 13 = .ok (.iload_n 2, 1) := by decide +kernel
theorem dX6_about_14 : decode cX6_about 14 = .ok (.ifCond .lt 8, 3) := by decide +kernel
theorem dX6_about_17 : decode cX6_about 17 = .ok (.iload_n 2, 1) := by decide +kernel
theorem dX6_about_18 : decode cX6_about 18 = .ok (.iconst 3, 1) := by decide +kernel
theorem dX6_about_19 : decode cX6_about 19 = .ok (.if_icmp .le 9, 3) := by decide +kernel
theorem dX6_about_22 : decode cX6_about 22 = .ok (.aload_n 0, 1) := by decide +kernel
theorem dX6_about_23 : decode cX6_about 23 = .ok (.iconst 1, 1) := by decide +kernel
theorem dX6_about_24 : decode cX6_about 24 = .ok (.invokevirtual 208, 3) := by decide +kernel
theorem dX6_about_27 : decode cX6_about 27 = .ok (.ireturn, 1) := by decide +kernel
theorem dX6_about_28 : decode cX6_about 28 = .ok (.aload_n 0, 1) := by decide +kernel
theorem dX6_about_29 : decode cX6_about 29 = .ok (.getfield 90, 3) := by decide +kernel
theorem dX6_about_32 : decode cX6_about 32 = .ok (.iload_n 1, 1) := by decide +kernel
theorem dX6_about_33 : decode cX6_about 33 = .ok (.iaload, 1) := by decide +kernel
theorem dX6_about_34 : decode cX6_about 34 = .ok (.istore_n 3, 1) := by decide +kernel
theorem dX6_about_35 : decode cX6_about 35 = .ok (.iload_n 2, 1) := by decide +kernel
theorem dX6_about_36 : decode cX6_about 36 = .ok (.tableswitch 49 0 2 #[28, 35, 42], 28) := by decide +kernel
theorem dX6_about_64 : decode cX6_about 64 = .ok (.aload_n 0, 1) := by decide +kernel
theorem dX6_about_65 : decode cX6_about 65 = .ok (.getfield 7, 3) := by decide +kernel
theorem dX6_about_68 : decode cX6_about 68 = .ok (.iload_n 3, 1) := by decide +kernel
theorem dX6_about_69 : decode cX6_about 69 = .ok (.iaload, 1) := by decide +kernel
theorem dX6_about_70 : decode cX6_about 70 = .ok (.ireturn, 1) := by decide +kernel
theorem dX6_about_71 : decode cX6_about 71 = .ok (.aload_n 0, 1) := by decide +kernel
theorem dX6_about_72 : decode cX6_about 72 = .ok (.getfield 19, 3) := by decide +kernel
theorem dX6_about_75 : decode cX6_about 75 = .ok (.iload_n 3, 1) := by decide +kernel
theorem dX6_about_76 : decode cX6_about 76 = .ok (.iaload, 1) := by decide +kernel
theorem dX6_about_77 : decode cX6_about 77 = .ok (.ireturn, 1) := by decide +kernel
theorem dX6_about_78 : decode cX6_about 78 = .ok (.aload_n 0, 1) := by decide +kernel
theorem dX6_about_79 : decode cX6_about 79 = .ok (.getfield 22, 3) := by decide +kernel
theorem dX6_about_82 : decode cX6_about 82 = .ok (.iload_n 3, 1) := by decide +kernel
theorem dX6_about_83 : decode cX6_about 83 = .ok (.iaload, 1) := by decide +kernel
theorem dX6_about_84 : decode cX6_about 84 = .ok (.ireturn, 1) := by decide +kernel
theorem dX6_about_85 : decode cX6_about 85 = .ok (.aload_n 0, 1) := by decide +kernel
theorem dX6_about_86 : decode cX6_about 86 = .ok (.getfield 7, 3) := by decide +kernel
theorem dX6_about_89 : decode cX6_about 89 = .ok (.iload_n 3, 1) := by decide +kernel
theorem dX6_about_90 : decode cX6_about 90 = .ok (.iaload, 1) := by decide +kernel
theorem dX6_about_91 : decode cX6_about 91 = .ok (.iconst 5, 1) := by decide +kernel
theorem dX6_about_92 : decode cX6_about 92 = .ok (.if_icmp .eq 23, 3) := by decide +kernel
theorem dX6_about_95 : decode cX6_about 95 = .ok (.aload_n 0, 1) := by decide +kernel
theorem dX6_about_96 : decode cX6_about 96 = .ok (.getfield 7, 3) := by decide +kernel
theorem dX6_about_99 : decode cX6_about 99 = .ok (.iload_n 3, 1) := by decide +kernel
theorem dX6_about_100 : decode cX6_about 100 = .ok (.iaload, 1) := by decide +kernel
theorem dX6_about_101 : decode cX6_about 101 = .ok (.iconst 1, 1) := by decide +kernel
theorem dX6_about_102 : decode cX6_about 102 = .ok (.if_icmp .eq 13, 3) := by decide +kernel
theorem dX6_about_105 : decode cX6_about 105 = .ok (.aload_n 0, 1) := by decide +kernel
theorem dX6_about_106 : decode cX6_about 106 = .ok (.getfield 7, 3) := by decide +kernel
theorem dX6_about_109 : decode cX6_about 109 = .ok (.iload_n 3, 1) := by decide +kernel
theorem dX6_about_110 : decode cX6_about 110 = .ok (.iaload, 1) := by decide +kernel
theorem dX6_about_111 : decode cX6_about 111 = .ok (.iconst 2, 1) := by decide +kernel
theorem dX6_about_112 : decode cX6_about 112 = .ok (.if_icmp .ne 12, 3) := by decide +kernel
theorem dX6_about_115 : decode cX6_about 115 = .ok (.aload_n 0, 1) := by decide +kernel
theorem dX6_about_116 : decode cX6_about 116 = .ok (.getfield 13, 3) := by decide +kernel
theorem dX6_about_119 : decode cX6_about 119 = .ok (.iload_n 3, 1) := by decide +kernel
theorem dX6_about_120 : decode cX6_about 120 = .ok (.iaload, 1) := by decide +kernel
theorem dX6_about_121 : decode cX6_about 121 = .ok (.goto 4, 3) := by decide +kernel
theorem dX6_about_124 : decode cX6_about 124 = .ok (.iconst (-1), 1) := by decide +kernel
theorem dX6_about_125 : decode cX6_about 125 = .ok (.ireturn, 1) := by decide +kernel
theorem dX6_part_0 : decode cX6_part 0 = .ok (.aload_n 0, 1) := by decide +kernel
theorem dX6_part_1 : decode cX6_part 1 = .ok (.iconst 0, 1) := by decide +kernel
theorem dX6_part_2 : decode cX6_part 2 = .ok (.putfield 93, 3) := by decide +kernel
theorem dX6_part_5 : decode cX6_part 5 = .ok (.aload_n 0, 1) := by decide +kernel
theorem dX6_part_6 : decode cX6_part 6 = .ok (.iload_n 1, 1) := by decide +kernel
theorem dX6_part_7 : decode cX6_part 7 = .ok (.invokevirtual 211, 3) := by decide +kernel
theorem dX6_part_10 : decode cX6_part 10 = .ok (.ifCond .eq 22, 3) := by decide +kernel
theorem dX6_part_13 : decode cX6_part 13 = .ok (.iload_n 2, 1) := by decide +kernel
theorem dX6_part_14 : decode cX6_part 14 = .ok (.ifCond .lt 18, 3) := by decide +kernel
theorem dX6_part_17 : decode cX6_part 17 = .ok (.iload_n 2, 1) := by decide +kernel
theorem dX6_part_18 : decode cX6_part 18 = .ok (.aload_n 0, 1) := by decide +kernel
theorem dX6_part_19 : decode cX6_part 19 = .ok (.getfield 19, 3) := by decide +kernel
theorem dX6_part_22 : decode cX6_part 22 = .ok (.aload_n 0, 1) := by decide +kernel
theorem dX6_part_23 : decode cX6_part 23 = .ok (.getfield 90, 3) := by decide +kernel
theorem dX6_part_26 : decode cX6_part 26 = .ok (.iload_n 1, 1) := by decide +kernel
theorem dX6_part_27 : decode cX6_part 27 = .ok (.iaload, 1) := by decide +kernel
theorem dX6_part_28 : decode cX6_part 28 = .ok (.iaload, 1) := by decide +kernel
theorem dX6_part_29 : decode cX6_part 29 = .ok (.if_icmp .lt 9, 3) := by decide +kernel
theorem dX6_part_32 : decode cX6_part 32 = .ok (.aload_n 0, 1) := by decide +kernel
theorem dX6_part_33 : decode cX6_part 33 = .ok (.iconst 1, 1) := by decide +kernel
theorem dX6_part_34 : decode cX6_part 34 = .ok (.invokevirtual 208, 3) := by decide +kernel
theorem dX6_part_37 : decode cX6_part 37 = .ok (.ireturn, 1) := by decide +kernel
theorem dX6_part_38 : decode cX6_part 38 = .ok (.aload_n 0, 1) := by decide +kernel
theorem dX6_part_39 : decode cX6_part 39 = .ok (.aload_n 0, 1) := by decide +kernel
theorem dX6_part_40 : decode cX6_part 40 = .ok (.aload_n 0, 1) := by decide +kernel
theorem dX6_part_41 : decode cX6_part 41 = .ok (.getfield 90, 3) := by decide +kernel
theorem dX6_part_44 : decode cX6_part 44 = .ok (.iload_n 1, 1) := by decide +kernel
theorem dX6_part_45 : decode cX6_part 45 = .ok (.iaload, 1) := by decide +kernel
theorem dX6_part_46 : decode cX6_part 46 = .ok (.iload_n 2, 1) := by decide +kernel
theorem dX6_part_47 : decode cX6_part 47 = .ok (.invokevirtual 110, 3) := by decide +kernel
theorem dX6_part_50 : decode cX6_part 50 = .ok (.iconst 2, 1) := by decide +kernel
theorem dX6_part_51 : decode cX6_part 51 = .ok (.invokevirtual 227, 3) := by decide +kernel
theorem dX6_part_54 : decode cX6_part 54 = .ok (.ireturn, 1) := by decide +kernel
theorem dX6_alike_0 : decode cX6_alike 0 = .ok (.aload_n 0, 1) := by decide +kernel
theorem dX6_alike_1 : decode cX6_alike 1 = .ok (.iconst 0, 1) := by decide +kernel
theorem dX6_alike_2 : decode cX6_alike 2 = .ok (.putfield 93, 3) := by decide +kernel
theorem dX6_alike_5 : decode cX6_alike 5 = .ok (.aload_n 0, 1) := by decide +kernel
theorem dX6_alike_6 : decode cX6_alike 6 = .ok (.iload_n 1, 1) := by decide +kernel
theorem dX6_alike_7 : decode cX6_alike 7 = .ok (.invokevirtual 211, 3) := by decide +kernel
theorem dX6_alike_10 : decode cX6_alike 10 = .ok (.ifCond .eq 11, 3) := by decide +kernel
theorem dX6_alike_13 : decode cX6_alike 13 = .ok (.aload_n 0, 1) := by decide +kernel
theorem dX6_alike_14 : decode cX6_alike 14 = .ok (.iload_n 2, 1) := by decide +kernel
theorem dX6_alike_15 : decode cX6_alike 15 = .ok (.invokevirtual 211, 3) := by decide +kernel
theorem dX6_alike_18 : decode cX6_alike 18 = .ok (.ifCond .ne 19, 3) := by decide +kernel
theorem dX6_alike_21 : decode cX6_alike 21 = .ok (.aload_n 0, 1) := by decide +kernel
theorem dX6_alike_22 : decode cX6_alike 22 = .ok (.iconst 1, 1) := by decide +kernel
theorem dX6_alike_23 : decode cX6_alike 23 = .ok (.invokevirtual 208, 3) := by decide +kernel
theorem dX6_alike_26 : decode cX6_alike 26 = .ok (.ifCond .le 7, 3) := by decide +kernel
theorem dX6_alike_29 : decode cX6_alike 29 = .ok (.iconst 1, 1) := by decide +kernel
theorem dX6_alike_30 : decode cX6_alike 30 = .ok (.goto 27, 3) := by decide +kernel
theorem dX6_alike_33 : decode cX6_alike 33 = .ok (.iconst 0, 1) := by decide +kernel
theorem dX6_alike_34 : decode cX6_alike 34 = .ok (.goto 23, 3) := by decide +kernel
theorem dX6_alike_37 : decode cX6_alike 37 = .ok (.aload_n 0, 1) := by decide +kernel
theorem dX6_alike_38 : decode cX6_alike 38 = .ok (.getfield 90, 3) := by decide +kernel
theorem dX6_alike_41 : decode cX6_alike 41 = .ok (.iload_n 1, 1) := by decide +kernel
theorem dX6_alike_42 : decode cX6_alike 42 = .ok (.iaload, 1) := by decide +kernel
theorem dX6_alike_43 : decode cX6_alike 43 = .ok (.aload_n 0, 1) := by decide +kernel
theorem dX6_alike_44 : decode cX6_alike 44 = .ok (.getfield 90, 3) := by decide +kernel
theorem dX6_alike_47 : decode cX6_alike 47 = .ok (.iload_n 2, 1) := by decide +kernel
theorem dX6_alike_48 : decode cX6_alike 48 = .ok (.iaload, 1) := by decide +kernel
theorem dX6_alike_49 : decode cX6_alike 49 = .ok (.if_icmp .ne 7, 3) := by decide +kernel
theorem dX6_alike_52 : decode cX6_alike 52 = .ok (.iconst 1, 1) := by decide +kernel
theorem dX6_alike_53 : decode cX6_alike 53 = .ok (.goto 4, 3) := by decide +kernel
theorem dX6_alike_56 : decode cX6_alike 56 = .ok (.iconst 0, 1) := by decide +kernel
theorem dX6_alike_57 : decode cX6_alike 57 = .ok (.ireturn, 1) := by decide +kernel
theorem dX6_fit_0 : decode cX6_fit 0 = .ok (.aload_n 0, 1) := by decide +kernel
theorem dX6_fit_1 : decode cX6_fit 1 = .ok (.iconst 0, 1) := by decide +kernel
theorem dX6_fit_2 : decode cX6_fit 2 = .ok (.putfield 93, 3) := by decide +kernel
theorem dX6_fit_5 : decode cX6_fit 5 = .ok (.aload_n 0, 1) := by decide +kernel
theorem dX6_fit_6 : decode cX6_fit 6 = .ok (.getfield 86, 3) := by decide +kernel
theorem dX6_fit_9 : decode cX6_fit 9 = .ok (.ireturn, 1) := by decide +kernel
theorem dX6_more_0 : decode cX6_more 0 = .ok (.iload_n 1, 1) := by decide +kernel
theorem dX6_more_1 : decode cX6_more 1 = .ok (.aload_n 0, 1) := by decide +kernel
theorem dX6_more_2 : decode cX6_more 2 = .ok (.arraylength, 1) := by decide +kernel
theorem dX6_more_3 : decode cX6_more 3 = .ok (.if_icmp .ge 5, 3) := by decide +kernel
theorem dX6_more_6 : decode cX6_more 6 = .ok (.aload_n 0, 1) := by decide +kernel
theorem dX6_more_7 : decode cX6_more 7 = .ok (.areturn, 1) := by decide +kernel
theorem dX6_more_8 : decode cX6_more 8 = .ok (.iload_n 1, 1) := by decide +kernel
theorem dX6_more_9 : decode cX6_more 9 = .ok (.iconst 1, 1) := by decide +kernel
theorem dX6_more_10 : decode cX6_more 10 = .ok (.iadd, 1) := by decide +kernel
theorem dX6_more_11 : decode cX6_more 11 = .ok (.iconst 2, 1) := by decide +kernel
theorem dX6_more_12 : decode cX6_more 12 = .ok (.aload_n 0, 1) := by decide +kernel
theorem dX6_more_13 : decode cX6_more 13 = .ok (.arraylength, 1) := by decide +kernel
theorem dX6_more_14 : decode cX6_more 14 = .ok (.imul, 1) := by decide +kernel
theorem dX6_more_15 : decode cX6_more 15 = .ok (.invokestatic 97, 3) := by decide +kernel
theorem dX6_more_18 : decode cX6_more 18 = .ok (.newarray .int, 2) := by decide +kernel
theorem dX6_more_20 : decode cX6_more 20 = .ok (.astore_n 2, 1) := by decide +kernel
theorem dX6_more_21 : decode cX6_more 21 = .ok (.iconst 0, 1) := by decide +kernel
theorem dX6_more_22 : decode cX6_more 22 = .ok (.istore_n 3, 1) := by decide +kernel
theorem dX6_more_23 : decode cX6_more 23 = .ok (.iload_n 3, 1) := by decide +kernel
theorem dX6_more_24 : decode cX6_more 24 = .ok (.aload_n 0, 1) := by decide +kernel
theorem dX6_more_25 : decode cX6_more 25 = .ok (.arraylength, 1) := by decide +kernel
theorem dX6_more_26 : decode cX6_more 26 = .ok (.if_icmp .ge 15, 3) := by decide +kernel
theorem dX6_more_29 : decode cX6_more 29 = .ok (.aload_n 2, 1) := by decide +kernel
theorem dX6_more_30 : decode cX6_more 30 = .ok (.iload_n 3, 1) := by decide +kernel
theorem dX6_more_31 : decode cX6_more 31 = .ok (.aload_n 0, 1) := by decide +kernel
theorem dX6_more_32 : decode cX6_more 32 = .ok (.iload_n 3, 1) := by decide +kernel
theorem dX6_more_33 : decode cX6_more 33 = .ok (.iaload, 1) := by decide +kernel
theorem dX6_more_34 : decode cX6_more 34 = .ok (.iastore, 1) := by decide +kernel
theorem dX6_more_35 : decode cX6_more 35 = .ok (.iinc 3 1, 3) := by decide +kernel
theorem dX6_more_38 : decode cX6_more 38 = .ok (.goto (-15), 3) := by decide +kernel
theorem dX6_more_41 : decode cX6_more 41 = .ok (.aload_n 2, 1) := by decide +kernel
theorem dX6_more_42 : decode cX6_more 42 = .ok (.areturn, 1) := by decide +kernel
theorem dX6_node_0 : decode cX6_node 0 = .ok (.aload_n 0, 1) := by decide +kernel
theorem dX6_node_1 : decode cX6_node 1 = .ok (.getfield 103, 3) := by decide +kernel
theorem dX6_node_4 : decode cX6_node 4 = .ok (.iload_n 3, 1) := by decide +kernel
theorem dX6_node_5 : decode cX6_node 5 = .ok (.isub, 1) := by decide +kernel
theorem dX6_node_6 : decode cX6_node 6 = .ok (.istore 4, 2) := by decide +kernel
theorem dX6_node_8 : decode cX6_node 8 = .ok (.bipush 31, 2) := by decide +kernel
theorem dX6_node_10 : decode cX6_node 10 = .ok (.iload_n 1, 1) := by decide +kernel
theorem dX6_node_11 : decode cX6_node 11 = .ok (.imul, 1) := by decide +kernel
theorem dX6_node_12 : decode cX6_node 12 = .ok (.iload_n 2, 1) := by decide +kernel
theorem dX6_node_13 : decode cX6_node 13 = .ok (.iadd, 1) := by decide +kernel
theorem dX6_node_14 : decode cX6_node 14 = .ok (.istore 5, 2) := by decide +kernel
theorem dX6_node_16 : decode cX6_node 16 = .ok (.iload_n 3, 1) := by decide +kernel
theorem dX6_node_17 : decode cX6_node 17 = .ok (.istore 6, 2) := by decide +kernel
theorem dX6_node_19 : decode cX6_node 19 = .ok (.iload 6, 2) := by decide +kernel
theorem dX6_node_21 : decode cX6_node 21 = .ok (.aload_n 0, 1) := by decide +kernel
theorem dX6_node_22 : decode cX6_node 22 = .ok (.getfield 103, 3) := by decide +kernel
theorem dX6_node_25 : decode cX6_node 25 = .ok (.if_icmp .ge 24, 3) := by decide +kernel
theorem dX6_node_28 : decode cX6_node 28 = .ok (.bipush 31, 2) := by decide +kernel
theorem dX6_node_30 : decode cX6_node 30 = .ok (.iload 5, 2) := by decide +kernel
theorem dX6_node_32 : decode cX6_node 32 = .ok (.imul, 1) := by decide +kernel
theorem dX6_node_33 : decode cX6_node 33 = .ok (.aload_n 0, 1) := by decide +kernel
theorem dX6_node_34 : decode cX6_node 34 = .ok (.getfield 40, 3) := by decide +kernel
theorem dX6_node_37 : decode cX6_node 37 = .ok (.iload 6, 2) := by decide +kernel
theorem dX6_node_39 : decode cX6_node 39 = .ok (.iaload, 1) := by decide +kernel
theorem dX6_node_40 : decode cX6_node 40 = .ok (.iadd, 1) := by decide +kernel
theorem dX6_node_41 : decode cX6_node 41 = .ok (.istore 5, 2) := by decide +kernel
theorem dX6_node_43 : decode cX6_node 43 = .ok (.iinc 6 1, 3) := by decide +kernel
theorem dX6_node_46 : decode cX6_node 46 = .ok (.goto (-27), 3) := by decide +kernel
theorem dX6_node_49 : decode cX6_node 49 = .ok (.iload 5, 2) := by decide +kernel
theorem dX6_node_51 : decode cX6_node 51 = .ok (.iload 5, 2) := by decide +kernel
theorem dX6_node_53 : decode cX6_node 53 = .ok (.bipush 11, 2) := by decide +kernel
theorem dX6_node_55 : decode cX6_node 55 = .ok (.iushr, 1) := by decide +kernel
theorem dX6_node_56 : decode cX6_node 56 = .ok (.ixor, 1) := by decide +kernel
theorem dX6_node_57 : decode cX6_node 57 = .ok (.aload_n 0, 1) := by decide +kernel
theorem dX6_node_58 : decode cX6_node 58 = .ok (.getfield 34, 3) := by decide +kernel
theorem dX6_node_61 : decode cX6_node 61 = .ok (.arraylength, 1) := by decide +kernel
theorem dX6_node_62 : decode cX6_node 62 = .ok (.iconst 1, 1) := by decide +kernel
theorem dX6_node_63 : decode cX6_node 63 = .ok (.isub, 1) := by decide +kernel
theorem dX6_node_64 : decode cX6_node 64 = .ok (.iand, 1) := by decide +kernel
theorem dX6_node_65 : decode cX6_node 65 = .ok (.istore 5, 2) := by decide +kernel
theorem dX6_node_67 : decode cX6_node 67 = .ok (.aload_n 0, 1) := by decide +kernel
theorem dX6_node_68 : decode cX6_node 68 = .ok (.getfield 34, 3) := by decide +kernel
theorem dX6_node_71 : decode cX6_node 71 = .ok (.iload 5, 2) := by decide +kernel
theorem dX6_node_73 : decode cX6_node 73 = .ok (.iaload, 1) := by decide +kernel
theorem dX6_node_74 : decode cX6_node 74 = .ok (.istore 6, 2) := by decide +kernel
theorem dX6_node_76 : decode cX6_node 76 = .ok (.iload 6, 2) := by decide +kernel
theorem dX6_node_78 : decode cX6_node 78 = .ok (.ifCond .le 106, 3) := by decide +kernel
theorem dX6_node_81 : decode cX6_node 81 = .ok (.aload_n 0, 1) := by decide +kernel
theorem dX6_node_82 : decode cX6_node 82 = .ok (.getfield 7, 3) := by decide +kernel
theorem dX6_node_85 : decode cX6_node 85 = .ok (.iload 6, 2) := by decide +kernel
theorem dX6_node_87 : decode cX6_node 87 = .ok (.iaload, 1) := by decide +kernel
theorem dX6_node_88 : decode cX6_node 88 = .ok (.iload_n 1, 1) := by decide +kernel
theorem dX6_node_89 : decode cX6_node 89 = .ok (.if_icmp .ne 83, 3) := by decide +kernel
theorem dX6_node_92 : decode cX6_node 92 = .ok (.aload_n 0, 1) := by decide +kernel
theorem dX6_node_93 : decode cX6_node 93 = .ok (.getfield 13, 3) := by decide +kernel
theorem dX6_node_96 : decode cX6_node 96 = .ok (.iload 6, 2) := by decide +kernel
theorem dX6_node_98 : decode cX6_node 98 = .ok (.iaload, 1) := by decide +kernel
theorem dX6_node_99 : decode cX6_node 99 = .ok (.iload_n 2, 1) := by decide +kernel
theorem dX6_node_100 : decode cX6_node 100 = .ok (.if_icmp .ne 72, 3) := by decide +kernel
theorem dX6_node_103 : decode cX6_node 103 = .ok (.aload_n 0, 1) := by decide +kernel
theorem dX6_node_104 : decode cX6_node 104 = .ok (.getfield 19, 3) := by decide +kernel
theorem dX6_node_107 : decode cX6_node 107 = .ok (.iload 6, 2) := by decide +kernel
theorem dX6_node_109 : decode cX6_node 109 = .ok (.iaload, 1) := by decide +kernel
theorem dX6_node_110 : decode cX6_node 110 = .ok (.iload 4, 2) := by decide +kernel
theorem dX6_node_112 : decode cX6_node 112 = .ok (.if_icmp .eq 6, 3) := by decide +kernel
theorem dX6_node_115 : decode cX6_node 115 = .ok (.goto 57, 3) := by decide +kernel
theorem dX6_node_118 : decode cX6_node 118 = .ok (.iconst 0, 1) := by decide +kernel
theorem dX6_node_119 : decode cX6_node 119 = .ok (.istore 7, 2) := by decide +kernel
theorem dX6_node_121 : decode cX6_node 121 = .ok (.iload 7, 2) := by decide +kernel
theorem dX6_node_123 : decode cX6_node 123 = .ok (.iload 4, 2) := by decide +kernel
theorem dX6_node_125 : decode cX6_node 125 = .ok (.if_icmp .ge 29, 3) := by decide +kernel
theorem dX6_node_128 : decode cX6_node 128 = .ok (.aload_n 0, 1) := by decide +kernel
theorem dX6_node_129 : decode cX6_node 129 = .ok (.iload 6, 2) := by decide +kernel
theorem dX6_node_131 : decode cX6_node 131 = .ok (.iload 7, 2) := by decide +kernel
theorem dX6_node_133 : decode cX6_node 133 = .ok (.invokevirtual 110, 3) := by decide +kernel
theorem dX6_node_136 : decode cX6_node 136 = .ok (.aload_n 0, 1) := by decide +kernel
theorem dX6_node_137 : decode cX6_node 137 = .ok (.getfield 40, 3) := by decide +kernel
theorem dX6_node_140 : decode cX6_node 140 = .ok (.iload_n 3, 1) := by decide +kernel
theorem dX6_node_141 : decode cX6_node 141 = .ok (.iload 7, 2) := by decide +kernel
theorem dX6_node_143 : decode cX6_node 143 = .ok (.iadd, 1) := by decide +kernel
theorem dX6_node_144 : decode cX6_node 144 = .ok (.iaload, 1) := by decide +kernel
theorem dX6_node_145 : decode cX6_node 145 = .ok (.if_icmp .ne 9, 3) := by decide +kernel
theorem dX6_node_148 : decode cX6_node 148 = .ok (.iinc 7 1, 3) := by decide +kernel
theorem dX6_node_151 : decode cX6_node 151 = .ok (.goto (-30), 3) := by decide +kernel
theorem dX6_node_154 : decode cX6_node 154 = .ok (.iload 7, 2) := by decide +kernel
theorem dX6_node_156 : decode cX6_node 156 = .ok (.iload 4, 2) := by decide +kernel
theorem dX6_node_158 : decode cX6_node 158 = .ok (.if_icmp .ge 6, 3) := by decide +kernel
theorem dX6_node_161 : decode cX6_node 161 = .ok (.goto 11, 3) := by decide +kernel
theorem dX6_node_164 : decode cX6_node 164 = .ok (.aload_n 0, 1) := by decide +kernel
theorem dX6_node_165 : decode cX6_node 165 = .ok (.iload_n 3, 1) := by decide +kernel
theorem dX6_node_166 : decode cX6_node 166 = .ok (.putfield 103, 3) := by decide +kernel
theorem dX6_node_169 : decode cX6_node 169 = .ok (.iload 6, 2) := by decide +kernel
theorem dX6_node_171 : decode cX6_node 171 = .ok (.ireturn, 1) := by decide +kernel
theorem dX6_node_172 : decode cX6_node 172 = .ok (.aload_n 0, 1) := by decide +kernel
theorem dX6_node_173 : decode cX6_node 173 = .ok (.getfield 28, 3) := by decide +kernel
theorem dX6_node_176 : decode cX6_node 176 = .ok (.iload 6, 2) := by decide +kernel
theorem dX6_node_178 : decode cX6_node 178 = .ok (.iaload, 1) := by decide +kernel
theorem dX6_node_179 : decode cX6_node 179 = .ok (.istore 6, 2) := by decide +kernel
theorem dX6_node_181 : decode cX6_node 181 = .ok (.goto (-105), 3) := by decide +kernel
theorem dX6_node_184 : decode cX6_node 184 = .ok (.aload_n 0, 1) := by decide +kernel
theorem dX6_node_185 : decode cX6_node 185 = .ok (.dup, 1) := by decide +kernel
theorem dX6_node_186 : decode cX6_node 186 = .ok (.getfield 113, 3) := by decide +kernel
theorem dX6_node_189 : decode cX6_node 189 = .ok (.iconst 1, 1) := by decide +kernel
theorem dX6_node_190 : decode cX6_node 190 = .ok (.iadd, 1) := by decide +kernel
theorem dX6_node_191 : decode cX6_node 191 = .ok (.putfield 113, 3) := by decide +kernel
theorem dX6_node_194 : decode cX6_node 194 = .ok (.aload_n 0, 1) := by decide +kernel
theorem dX6_node_195 : decode cX6_node 195 = .ok (.aload_n 0, 1) := by decide +kernel
theorem dX6_node_196 : decode cX6_node 196 = .ok (.getfield 7, 3) := by decide +kernel
theorem dX6_node_199 : decode cX6_node 199 = .ok (.aload_n 0, 1) := by decide +kernel
theorem dX6_node_200 : decode cX6_node 200 = .ok (.getfield 113, 3) := by decide +kernel
theorem dX6_node_203 : decode cX6_node 203 = .ok (.invokestatic 106, 3) := by decide +kernel
theorem dX6_node_206 : decode cX6_node 206 = .ok (.putfield 7, 3) := by decide +kernel
theorem dX6_node_209 : decode cX6_node 209 = .ok (.aload_n 0, 1) := by decide +kernel
theorem dX6_node_210 : decode cX6_node 210 = .ok (.aload_n 0, 1) := by decide +kernel
theorem dX6_node_211 : decode cX6_node 211 = .ok (.getfield 13, 3) := by decide +kernel
theorem dX6_node_214 : decode cX6_node 214 = .ok (.aload_n 0, 1) := by decide +kernel
theorem dX6_node_215 : decode cX6_node 215 = .ok (.getfield 113, 3) := by decide +kernel
theorem dX6_node_218 : decode cX6_node 218 = .ok (.invokestatic 106, 3) := by decide +kernel
theorem dX6_node_221 : decode cX6_node 221 = .ok (.putfield 13, 3) := by decide +kernel
theorem dX6_node_224 : decode cX6_node 224 = .ok (.aload_n 0, 1) := by decide +kernel
theorem dX6_node_225 : decode cX6_node 225 = .ok (.aload_n 0, 1) := by decide +kernel
theorem dX6_node_226 : decode cX6_node 226 = .ok (.getfield 16, 3) := by decide +kernel
theorem dX6_node_229 : decode cX6_node 229 = .ok (.aload_n 0, 1) := by decide +kernel
theorem dX6_node_230 : decode cX6_node 230 = .ok (.getfield 113, 3) := by decide +kernel
theorem dX6_node_233 : decode cX6_node 233 = .ok (.invokestatic 106, 3) := by decide +kernel
theorem dX6_node_236 : decode cX6_node 236 = .ok (.putfield 16, 3) := by decide +kernel
theorem dX6_node_239 : decode cX6_node 239 = .ok (.aload_n 0, 1) := by decide +kernel
theorem dX6_node_240 : decode cX6_node 240 = .ok (.aload_n 0, 1) := by decide +kernel
theorem dX6_node_241 : decode cX6_node 241 = .ok (.getfield 19, 3) := by decide +kernel
theorem dX6_node_244 : decode cX6_node 244 = .ok (.aload_n 0, 1) := by decide +kernel
theorem dX6_node_245 : decode cX6_node 245 = .ok (.getfield 113, 3) := by decide +kernel
theorem dX6_node_248 : decode cX6_node 248 = .ok (.invokestatic 106, 3) := by decide +kernel
theorem dX6_node_251 : decode cX6_node 251 = .ok (.putfield 19, 3) := by decide +kernel
theorem dX6_node_254 : decode cX6_node 254 = .ok (.aload_n 0, 1) := by decide +kernel
theorem dX6_node_255 : decode cX6_node 255 = .ok (.aload_n 0, 1) := by decide +kernel
theorem dX6_node_256 : decode cX6_node 256 = .ok (.getfield 22, 3) := by decide +kernel
theorem dX6_node_259 : decode cX6_node 259 = .ok (.aload_n 0, 1) := by decide +kernel
theorem dX6_node_260 : decode cX6_node 260 = .ok (.getfield 113, 3) := by decide +kernel
theorem dX6_node_263 : decode cX6_node 263 = .ok (.invokestatic 106, 3) := by decide +kernel
theorem dX6_node_266 : decode cX6_node 266 = .ok (.putfield 22, 3) := by decide +kernel
theorem dX6_node_269 : decode cX6_node 269 = .ok (.aload_n 0, 1) := by decide +kernel
theorem dX6_node_270 : decode cX6_node 270 = .ok (.aload_n 0, 1) := by decide +kernel
theorem dX6_node_271 : decode cX6_node 271 = .ok (.getfield 25, 3) := by decide +kernel
theorem dX6_node_274 : decode cX6_node 274 = .ok (.aload_n 0, 1) := by decide +kernel
theorem dX6_node_275 : decode cX6_node 275 = .ok (.getfield 113, 3) := by decide +kernel
theorem dX6_node_278 : decode cX6_node 278 = .ok (.invokestatic 106, 3) := by decide +kernel
theorem dX6_node_281 : decode cX6_node 281 = .ok (.putfield 25, 3) := by decide +kernel
theorem dX6_node_284 : decode cX6_node 284 = .ok (.aload_n 0, 1) := by decide +kernel
theorem dX6_node_285 : decode cX6_node 285 = .ok (.aload_n 0, 1) := by decide +kernel
theorem dX6_node_286 : decode cX6_node 286 = .ok (.getfield 28, 3) := by decide +kernel
theorem dX6_node_289 : decode cX6_node 289 = .ok (.aload_n 0, 1) := by decide +kernel
theorem dX6_node_290 : decode cX6_node 290 = .ok (.getfield 113, 3) := by decide +kernel
theorem dX6_node_293 : decode cX6_node 293 = .ok (.invokestatic 106, 3) := by decide +kernel
theorem dX6_node_296 : decode cX6_node 296 = .ok (.putfield 28, 3) := by decide +kernel
theorem dX6_node_299 : decode cX6_node 299 = .ok (.aload_n 0, 1) := by decide +kernel
theorem dX6_node_300 : decode cX6_node 300 = .ok (.aload_n 0, 1) := by decide +kernel
theorem dX6_node_301 : decode cX6_node 301 = .ok (.getfield 31, 3) := by decide +kernel
theorem dX6_node_304 : decode cX6_node 304 = .ok (.aload_n 0, 1) := by decide +kernel
theorem dX6_node_305 : decode cX6_node 305 = .ok (.getfield 113, 3) := by decide +kernel
theorem dX6_node_308 : decode cX6_node 308 = .ok (.invokestatic 106, 3) := by decide +kernel
theorem dX6_node_311 : decode cX6_node 311 = .ok (.putfield 31, 3) := by decide +kernel
theorem dX6_node_314 : decode cX6_node 314 = .ok (.aload_n 0, 1) := by decide +kernel
theorem dX6_node_315 : decode cX6_node 315 = .ok (.aload_n 0, 1) := by decide +kernel
theorem dX6_node_316 : decode cX6_node 316 = .ok (.getfield 37, 3) := by decide +kernel
theorem dX6_node_319 : decode cX6_node 319 = .ok (.aload_n 0, 1) := by decide +kernel
theorem dX6_node_320 : decode cX6_node 320 = .ok (.getfield 116, 3) := by decide +kernel
theorem dX6_node_323 : decode cX6_node 323 = .ok (.iload 4, 2) := by decide +kernel
theorem dX6_node_325 : decode cX6_node 325 = .ok (.iadd, 1) := by decide +kernel
theorem dX6_node_326 : decode cX6_node 326 = .ok (.invokestatic 106, 3) := by decide +kernel
theorem dX6_node_329 : decode cX6_node 329 = .ok (.putfield 37, 3) := by decide +kernel
theorem dX6_node_332 : decode cX6_node 332 = .ok (.iconst 1, 1) := by decide +kernel
theorem dX6_node_333 : decode cX6_node 333 = .ok (.istore 6, 2) := by decide +kernel
theorem dX6_node_335 : decode cX6_node 335 = .ok (.iload_n 1, 1) := by decide +kernel
theorem dX6_node_336 : decode cX6_node 336 = .ok (.iconst 2, 1) := by decide +kernel
theorem dX6_node_337 : decode cX6_node 337 = .ok (.if_icmp .ne 9, 3) := by decide +kernel
theorem dX6_node_340 : decode cX6_node 340 = .ok (.iload_n 2, 1) := by decide +kernel
theorem dX6_node_341 : decode cX6_node 341 = .ok (.iconst 1, 1) := by decide +kernel
theorem dX6_node_342 : decode cX6_node 342 = .ok (.iadd, 1) := by decide +kernel
theorem dX6_node_343 : decode cX6_node 343 = .ok (.goto 4, 3) := by decide +kernel
theorem dX6_node_346 : decode cX6_node 346 = .ok (.iconst 0, 1) := by decide +kernel
theorem dX6_node_347 : decode cX6_node 347 = .ok (.istore 7, 2) := by decide +kernel
theorem dX6_node_349 : decode cX6_node 349 = .ok (.iconst 0, 1) := by decide +kernel
theorem dX6_node_350 : decode cX6_node 350 = .ok (.istore 8, 2) := by decide +kernel
theorem dX6_node_352 : decode cX6_node 352 = .ok (.iload 8, 2) := by decide +kernel
theorem dX6_node_354 : decode cX6_node 354 = .ok (.iload 4, 2) := by decide +kernel
theorem dX6_node_356 : decode cX6_node 356 = .ok (.if_icmp .ge 83, 3) := by decide +kernel
theorem dX6_node_359 : decode cX6_node 359 = .ok (.aload_n 0, 1) := by decide +kernel
theorem dX6_node_360 : decode cX6_node 360 = .ok (.getfield 40, 3) := by decide +kernel
theorem dX6_node_363 : decode cX6_node 363 = .ok (.iload_n 3, 1) := by decide +kernel
theorem dX6_node_364 : decode cX6_node 364 = .ok (.iload 8, 2) := by decide +kernel
theorem dX6_node_366 : decode cX6_node 366 = .ok (.iadd, 1) := by decide +kernel
theorem dX6_node_367 : decode cX6_node 367 = .ok (.iaload, 1) := by decide +kernel
theorem dX6_node_368 : decode cX6_node 368 = .ok (.istore 9, 2) := by decide +kernel
theorem dX6_node_370 : decode cX6_node 370 = .ok (.aload_n 0, 1) := by decide +kernel
theorem dX6_node_371 : decode cX6_node 371 = .ok (.getfield 25, 3) := by decide +kernel
theorem dX6_node_374 : decode cX6_node 374 = .ok (.iload 9, 2) := by decide +kernel
theorem dX6_node_376 : decode cX6_node 376 = .ok (.iaload, 1) := by decide +kernel
theorem dX6_node_377 : decode cX6_node 377 = .ok (.iload_n 1, 1) := by decide +kernel
theorem dX6_node_378 : decode cX6_node 378 = .ok (.bipush 8, 2) := by decide +kernel
theorem dX6_node_380 : decode cX6_node 380 = .ok (.if_icmp .ne 7, 3) := by decide +kernel
theorem dX6_node_383 : decode cX6_node 383 = .ok (.iconst 1, 1) := by decide +kernel
theorem dX6_node_384 : decode cX6_node 384 = .ok (.goto 4, 3) := by decide +kernel
theorem dX6_node_387 : decode cX6_node 387 = .ok (.iconst 0, 1) := by decide +kernel
theorem dX6_node_388 : decode cX6_node 388 = .ok (.isub, 1) := by decide +kernel
theorem dX6_node_389 : decode cX6_node 389 = .ok (.istore 10, 2) := by decide +kernel
theorem dX6_node_391 : decode cX6_node 391 = .ok (.aload_n 0, 1) := by decide +kernel
theorem dX6_node_392 : decode cX6_node 392 = .ok (.getfield 37, 3) := by decide +kernel
theorem dX6_node_395 : decode cX6_node 395 = .ok (.aload_n 0, 1) := by decide +kernel
theorem dX6_node_396 : decode cX6_node 396 = .ok (.getfield 116, 3) := by decide +kernel
theorem dX6_node_399 : decode cX6_node 399 = .ok (.iload 8, 2) := by decide +kernel
theorem dX6_node_401 : decode cX6_node 401 = .ok (.iadd, 1) := by decide +kernel
theorem dX6_node_402 : decode cX6_node 402 = .ok (.iload 9, 2) := by decide +kernel
theorem dX6_node_404 : decode cX6_node 404 = .ok (.iastore, 1) := by decide +kernel
theorem dX6_node_405 : decode cX6_node 405 = .ok (.iload 6, 2) := by decide +kernel
theorem dX6_node_407 : decode cX6_node 407 = .ok (.aload_n 0, 1) := by decide +kernel
theorem dX6_node_408 : decode cX6_node 408 = .ok (.getfield 22, 3) := by decide +kernel
theorem dX6_node_411 : decode cX6_node 411 = .ok (.iload 9, 2) := by decide +kernel
theorem dX6_node_413 : decode cX6_node 413 = .ok (.iaload, 1) := by decide +kernel
theorem dX6_node_414 : decode cX6_node 414 = .ok (.iadd, 1) := by decide +kernel
theorem dX6_node_415 : decode cX6_node 415 = .ok (.istore 6, 2) := by decide +kernel
theorem dX6_node_417 : decode cX6_node 417 = .ok (.iload 10, 2) := by decide +kernel
theorem dX6_node_419 : decode cX6_node 419 = .ok (.iload 7, 2) := by decide +kernel
theorem dX6_node_421 : decode cX6_node 421 = .ok (.if_icmp .le 8, 3) := by decide +kernel
theorem dX6_node_424 : decode cX6_node 424 = .ok (.iload 10, 2) := by decide +kernel
theorem dX6_node_426 : decode cX6_node 426 = .ok (.goto 5, 3) := by decide +kernel
theorem dX6_node_429 : decode cX6_node 429 = .ok (.iload 7, 2) := by decide +kernel
theorem dX6_node_431 : decode cX6_node 431 = .ok (.istore 7, 2) := by decide +kernel
theorem dX6_node_433 : decode cX6_node 433 = .ok (.iinc 8 1, 3) := by decide +kernel
theorem dX6_node_436 : decode cX6_node 436 = .ok (.goto (-84), 3) := by decide +kernel
theorem dX6_node_439 : decode cX6_node 439 = .ok (.aload_n 0, 1) := by decide +kernel
theorem dX6_node_440 : decode cX6_node 440 = .ok (.getfield 7, 3) := by decide +kernel
theorem dX6_node_443 : decode cX6_node 443 = .ok (.aload_n 0, 1) := by decide +kernel
theorem dX6_node_444 : decode cX6_node 444 = .ok (.getfield 113, 3) := by decide +kernel
theorem dX6_node_447 : decode cX6_node 447 = .ok (.iload_n 1, 1) := by decide +kernel
theorem dX6_node_448 : decode cX6_node 448 = .ok (.iastore, 1) := by decide +kernel
theorem dX6_node_449 : decode cX6_node 449 = .ok (.aload_n 0, 1) := by decide +kernel
theorem dX6_node_450 : decode cX6_node 450 = .ok (.getfield 13, 3) := by decide +kernel
theorem dX6_node_453 : decode cX6_node 453 = .ok (.aload_n 0, 1) := by decide +kernel
theorem dX6_node_454 : decode cX6_node 454 = .ok (.getfield 113, 3) := by decide +kernel
theorem dX6_node_457 : decode cX6_node 457 = .ok (.iload_n 2, 1) := by decide +kernel
theorem dX6_node_458 : decode cX6_node 458 = .ok (.iastore, 1) := by decide +kernel
theorem dX6_node_459 : decode cX6_node 459 = .ok (.aload_n 0, 1) := by decide +kernel
theorem dX6_node_460 : decode cX6_node 460 = .ok (.getfield 16, 3) := by decide +kernel
theorem dX6_node_463 : decode cX6_node 463 = .ok (.aload_n 0, 1) := by decide +kernel
theorem dX6_node_464 : decode cX6_node 464 = .ok (.getfield 113, 3) := by decide +kernel
theorem dX6_node_467 : decode cX6_node 467 = .ok (.aload_n 0, 1) := by decide +kernel
theorem dX6_node_468 : decode cX6_node 468 = .ok (.getfield 116, 3) := by decide +kernel
theorem dX6_node_471 : decode cX6_node 471 = .ok (.iastore, 1) := by decide +kernel
theorem dX6_node_472 : decode cX6_node 472 = .ok (.aload_n 0, 1) := by decide +kernel
theorem dX6_node_473 : decode cX6_node 473 = .ok (.getfield 19, 3) := by decide +kernel
theorem dX6_node_476 : decode cX6_node 476 = .ok (.aload_n 0, 1) := by decide +kernel
theorem dX6_node_477 : decode cX6_node 477 = .ok (.getfield 113, 3) := by decide +kernel
theorem dX6_node_480 : decode cX6_node 480 = .ok (.iload 4, 2) := by decide +kernel
theorem dX6_node_482 : decode cX6_node 482 = .ok (.iastore, 1) := by decide +kernel
theorem dX6_node_483 : decode cX6_node 483 = .ok (.aload_n 0, 1) := by decide +kernel
theorem dX6_node_484 : decode cX6_node 484 = .ok (.getfield 22, 3) := by decide +kernel
theorem dX6_node_487 : decode cX6_node 487 = .ok (.aload_n 0, 1) := by decide +kernel
theorem dX6_node_488 : decode cX6_node 488 = .ok (.getfield 113, 3) := by decide +kernel
theorem dX6_node_491 : decode cX6_node 491 = .ok (.iload 6, 2) := by decide +kernel
theorem dX6_node_493 : decode cX6_node 493 = .ok (.iastore, 1) := by decide +kernel
theorem dX6_node_494 : decode cX6_node 494 = .ok (.aload_n 0, 1) := by decide +kernel
theorem dX6_node_495 : decode cX6_node 495 = .ok (.getfield 25, 3) := by decide +kernel
theorem dX6_node_498 : decode cX6_node 498 = .ok (.aload_n 0, 1) := by decide +kernel
theorem dX6_node_499 : decode cX6_node 499 = .ok (.getfield 113, 3) := by decide +kernel
theorem dX6_node_502 : decode cX6_node 502 = .ok (.iload 7, 2) := by decide +kernel
theorem dX6_node_504 : decode cX6_node 504 = .ok (.iastore, 1) := by decide +kernel
theorem dX6_node_505 : decode cX6_node 505 = .ok (.aload_n 0, 1) := by decide +kernel
theorem dX6_node_506 : decode cX6_node 506 = .ok (.dup, 1) := by decide +kernel
theorem dX6_node_507 : decode cX6_node 507 = .ok (.getfield 116, 3) := by decide +kernel
theorem dX6_node_510 : decode cX6_node 510 = .ok (.iload 4, 2) := by decide +kernel
theorem dX6_node_512 : decode cX6_node 512 = .ok (.iadd, 1) := by decide +kernel
theorem dX6_node_513 : decode cX6_node 513 = .ok (.putfield 116, 3) := by decide +kernel
theorem dX6_node_516 : decode cX6_node 516 = .ok (.aload_n 0, 1) := by decide +kernel
theorem dX6_node_517 : decode cX6_node 517 = .ok (.iload_n 3, 1) := by decide +kernel
theorem dX6_node_518 : decode cX6_node 518 = .ok (.putfield 103, 3) := by decide +kernel
theorem dX6_node_521 : decode cX6_node 521 = .ok (.aload_n 0, 1) := by decide +kernel
theorem dX6_node_522 : decode cX6_node 522 = .ok (.getfield 28, 3) := by decide +kernel
theorem dX6_node_525 : decode cX6_node 525 = .ok (.aload_n 0, 1) := by decide +kernel
theorem dX6_node_526 : decode cX6_node 526 = .ok (.getfield 113, 3) := by decide +kernel
theorem dX6_node_529 : decode cX6_node 529 = .ok (.aload_n 0, 1) := by decide +kernel
theorem dX6_node_530 : decode cX6_node 530 = .ok (.getfield 34, 3) := by decide +kernel
theorem dX6_node_533 : decode cX6_node 533 = .ok (.iload 5, 2) := by decide +kernel
theorem dX6_node_535 : decode cX6_node 535 = .ok (.iaload, 1) := by decide +kernel
theorem dX6_node_536 : decode cX6_node 536 = .ok (.iastore, 1) := by decide +kernel
theorem dX6_node_537 : decode cX6_node 537 = .ok (.aload_n 0, 1) := by decide +kernel
theorem dX6_node_538 : decode cX6_node 538 = .ok (.getfield 31, 3) := by decide +kernel
theorem dX6_node_541 : decode cX6_node 541 = .ok (.aload_n 0, 1) := by decide +kernel
theorem dX6_node_542 : decode cX6_node 542 = .ok (.getfield 113, 3) := by decide +kernel
theorem dX6_node_545 : decode cX6_node 545 = .ok (.iload 5, 2) := by decide +kernel
theorem dX6_node_547 : decode cX6_node 547 = .ok (.iastore, 1) := by decide +kernel
theorem dX6_node_548 : decode cX6_node 548 = .ok (.aload_n 0, 1) := by decide +kernel
theorem dX6_node_549 : decode cX6_node 549 = .ok (.getfield 34, 3) := by decide +kernel
theorem dX6_node_552 : decode cX6_node 552 = .ok (.iload 5, 2) := by decide +kernel
theorem dX6_node_554 : decode cX6_node 554 = .ok (.aload_n 0, 1) := by decide +kernel
theorem dX6_node_555 : decode cX6_node 555 = .ok (.getfield 113, 3) := by decide +kernel
theorem dX6_node_558 : decode cX6_node 558 = .ok (.iastore, 1) := by decide +kernel
theorem dX6_node_559 : decode cX6_node 559 = .ok (.aload_n 0, 1) := by decide +kernel
theorem dX6_node_560 : decode cX6_node 560 = .ok (.getfield 113, 3) := by decide +kernel
theorem dX6_node_563 : decode cX6_node 563 = .ok (.ireturn, 1) := by decide +kernel
theorem dX6_leaf_0 : decode cX6_leaf 0 = .ok (.aload_n 0, 1) := by decide +kernel
theorem dX6_leaf_1 : decode cX6_leaf 1 = .ok (.iload_n 1, 1) := by decide +kernel
theorem dX6_leaf_2 : decode cX6_leaf 2 = .ok (.iload_n 2, 1) := by decide +kernel
theorem dX6_leaf_3 : decode cX6_leaf 3 = .ok (.aload_n 0, 1) := by decide +kernel
theorem dX6_leaf_4 : decode cX6_leaf 4 = .ok (.getfield 103, 3) := by decide +kernel
theorem dX6_leaf_7 : decode cX6_leaf 7 = .ok (.invokevirtual 133, 3) := by decide +kernel
theorem dX6_leaf_10 : decode cX6_leaf 10 = .ok (.ireturn, 1) := by decide +kernel
theorem dX6_truth_0 : decode cX6_truth 0 = .ok (.aload_n 0, 1) := by decide +kernel
theorem dX6_truth_1 : decode cX6_truth 1 = .ok (.iconst 3, 1) := by decide +kernel
theorem dX6_truth_2 : decode cX6_truth 2 = .ok (.iconst (-1), 1) := by decide +kernel
theorem dX6_truth_3 : decode cX6_truth 3 = .ok (.invokevirtual 141, 3) := by decide +kernel
theorem dX6_truth_6 : decode cX6_truth 6 = .ok (.ireturn, 1) := by decide +kernel
theorem dX6_gives_0 : decode cX6_gives 0 = .ok (.aload_n 0, 1) := by decide +kernel
theorem dX6_gives_1 : decode cX6_gives 1 = .ok (.getfield 205, 3) := by decide +kernel
theorem dX6_gives_4 : decode cX6_gives 4 = .ok (.sipush 1000, 3) := by decide +kernel
theorem dX6_gives_7 : decode cX6_gives 7 = .ok (.if_icmp .eq 14, 3) := by decide +kernel
theorem dX6_gives_10 : decode cX6_gives 10 = .ok (.aload_n 0, 1) := by decide +kernel
theorem dX6_gives_11 : decode cX6_gives 11 = .ok (.getfield 22, 3) := by decide +kernel
theorem dX6_gives_14 : decode cX6_gives 14 = .ok (.iload_n 1, 1) := by decide +kernel
theorem dX6_gives_15 : decode cX6_gives 15 = .ok (.iaload, 1) := by decide +kernel
theorem dX6_gives_16 : decode cX6_gives 16 = .ok (.bipush 100, 2) := by decide +kernel
theorem dX6_gives_18 : decode cX6_gives 18 = .ok (.if_icmp .le 9, 3) := by decide +kernel
theorem dX6_gives_21 : decode cX6_gives 21 = .ok (.aload_n 0, 1) := by decide +kernel
theorem dX6_gives_22 : decode cX6_gives 22 = .ok (.iload_n 2, 1) := by decide +kernel
theorem dX6_gives_23 : decode cX6_gives 23 = .ok (.invokevirtual 208, 3) := by decide +kernel
theorem dX6_gives_26 : decode cX6_gives 26 = .ok (.ireturn, 1) := by decide +kernel
theorem dX6_gives_27 : decode cX6_gives 27 = .ok (.aload_n 0, 1) := by decide +kernel
theorem dX6_gives_28 : decode cX6_gives 28 = .ok (.getfield 90, 3) := by decide +kernel
theorem dX6_gives_31 : decode cX6_gives 31 = .ok (.aload_n 0, 1) := by decide +kernel
theorem dX6_gives_32 : decode cX6_gives 32 = .ok (.getfield 205, 3) := by decide +kernel
theorem dX6_gives_35 : decode cX6_gives 35 = .ok (.iload_n 1, 1) := by decide +kernel
theorem dX6_gives_36 : decode cX6_gives 36 = .ok (.iastore, 1) := by decide +kernel
theorem dX6_gives_37 : decode cX6_gives 37 = .ok (.aload_n 0, 1) := by decide +kernel
theorem dX6_gives_38 : decode cX6_gives 38 = .ok (.dup, 1) := by decide +kernel
theorem dX6_gives_39 : decode cX6_gives 39 = .ok (.getfield 205, 3) := by decide +kernel
theorem dX6_gives_42 : decode cX6_gives 42 = .ok (.dup_x1, 1) := by decide +kernel
theorem dX6_gives_43 : decode cX6_gives 43 = .ok (.iconst 1, 1) := by decide +kernel
theorem dX6_gives_44 : decode cX6_gives 44 = .ok (.iadd, 1) := by decide +kernel
theorem dX6_gives_45 : decode cX6_gives 45 = .ok (.putfield 205, 3) := by decide +kernel
theorem dX6_gives_48 : decode cX6_gives 48 = .ok (.ireturn, 1) := by decide +kernel
theorem dX6_begins_0 : decode cX6_begins 0 = .ok (.aload_n 0, 1) := by decide +kernel
theorem dX6_begins_1 : decode cX6_begins 1 = .ok (.getfield 52, 3) := by decide +kernel
theorem dX6_begins_4 : decode cX6_begins 4 = .ok (.aload_n 0, 1) := by decide +kernel
theorem dX6_begins_5 : decode cX6_begins 5 = .ok (.getfield 187, 3) := by decide +kernel
theorem dX6_begins_8 : decode cX6_begins 8 = .ok (.iload_n 1, 1) := by decide +kernel
theorem dX6_begins_9 : decode cX6_begins 9 = .ok (.iastore, 1) := by decide +kernel
theorem dX6_begins_10 : decode cX6_begins 10 = .ok (.aload_n 0, 1) := by decide +kernel
theorem dX6_begins_11 : decode cX6_begins 11 = .ok (.getfield 55, 3) := by decide +kernel
theorem dX6_begins_14 : decode cX6_begins 14 = .ok (.aload_n 0, 1) := by decide +kernel
theorem dX6_begins_15 : decode cX6_begins 15 = .ok (.getfield 187, 3) := by decide +kernel
theorem dX6_begins_18 : decode cX6_begins 18 = .ok (.iload_n 2, 1) := by decide +kernel
theorem dX6_begins_19 : decode cX6_begins 19 = .ok (.iastore, 1) := by decide +kernel
theorem dX6_begins_20 : decode cX6_begins 20 = .ok (.aload_n 0, 1) := by decide +kernel
theorem dX6_begins_21 : decode cX6_begins 21 = .ok (.getfield 67, 3) := by decide +kernel
theorem dX6_begins_24 : decode cX6_begins 24 = .ok (.aload_n 0, 1) := by decide +kernel
theorem dX6_begins_25 : decode cX6_begins 25 = .ok (.getfield 187, 3) := by decide +kernel
theorem dX6_begins_28 : decode cX6_begins 28 = .ok (.iconst 0, 1) := by decide +kernel
theorem dX6_begins_29 : decode cX6_begins 29 = .ok (.bastore, 1) := by decide +kernel
theorem dX6_begins_30 : decode cX6_begins 30 = .ok (.aload_n 0, 1) := by decide +kernel
theorem dX6_begins_31 : decode cX6_begins 31 = .ok (.getfield 61, 3) := by decide +kernel
theorem dX6_begins_34 : decode cX6_begins 34 = .ok (.aload_n 0, 1) := by decide +kernel
theorem dX6_begins_35 : decode cX6_begins 35 = .ok (.getfield 187, 3) := by decide +kernel
theorem dX6_begins_38 : decode cX6_begins 38 = .ok (.aload_n 0, 1) := by decide +kernel
theorem dX6_begins_39 : decode cX6_begins 39 = .ok (.getfield 190, 3) := by decide +kernel
theorem dX6_begins_42 : decode cX6_begins 42 = .ok (.iastore, 1) := by decide +kernel
theorem dX6_begins_43 : decode cX6_begins 43 = .ok (.aload_n 0, 1) := by decide +kernel
theorem dX6_begins_44 : decode cX6_begins 44 = .ok (.dup, 1) := by decide +kernel
theorem dX6_begins_45 : decode cX6_begins 45 = .ok (.getfield 187, 3) := by decide +kernel
theorem dX6_begins_48 : decode cX6_begins 48 = .ok (.iconst 1, 1) := by decide +kernel
theorem dX6_begins_49 : decode cX6_begins 49 = .ok (.iadd, 1) := by decide +kernel
theorem dX6_begins_50 : decode cX6_begins 50 = .ok (.putfield 187, 3) := by decide +kernel
theorem dX6_begins_53 : decode cX6_begins 53 = .ok (.aload_n 0, 1) := by decide +kernel
theorem dX6_begins_54 : decode cX6_begins 54 = .ok (.getfield 187, 3) := by decide +kernel
theorem dX6_begins_57 : decode cX6_begins 57 = .ok (.ireturn, 1) := by decide +kernel
theorem dX6_predicate_0 : decode cX6_predicate 0 = .ok (.aload_n 0, 1) := by decide +kernel
theorem dX6_predicate_1 : decode cX6_predicate 1 = .ok (.iconst 0, 1) := by decide +kernel
theorem dX6_predicate_2 : decode cX6_predicate 2 = .ok (.putfield 93, 3) := by decide +kernel
theorem dX6_predicate_5 : decode cX6_predicate 5 = .ok (.iload_n 1, 1) := by decide +kernel
theorem dX6_predicate_6 : decode cX6_predicate 6 = .ok (.ifCond .lt 8, 3) := by decide +kernel
theorem dX6_predicate_9 : decode cX6_predicate 9 = .ok (.iload_n 1, 1) := by decide +kernel
theorem dX6_predicate_10 : decode cX6_predicate 10 = .ok (.iconst 2, 1) := by decide +kernel
theorem dX6_predicate_11 : decode cX6_predicate 11 = .ok (.if_icmp .le 9, 3) := by decide +kernel
theorem dX6_predicate_14 : decode cX6_predicate 14 = .ok (.aload_n 0, 1) := by decide +kernel
theorem dX6_predicate_15 : decode cX6_predicate 15 = .ok (.iconst 1, 1) := by decide +kernel
theorem dX6_predicate_16 : decode cX6_predicate 16 = .ok (.invokevirtual 208, 3) := by decide +kernel
theorem dX6_predicate_19 : decode cX6_predicate 19 = .ok (.ireturn, 1) := by decide +kernel
theorem dX6_predicate_20 : decode cX6_predicate 20 = .ok (.aload_n 0, 1) := by decide +kernel
theorem dX6_predicate_21 : decode cX6_predicate 21 = .ok (.getfield 221, 3) := by decide +kernel
theorem dX6_predicate_24 : decode cX6_predicate 24 = .ok (.bipush 30, 2) := by decide +kernel
theorem dX6_predicate_26 : decode cX6_predicate 26 = .ok (.if_icmp .ne 9, 3) := by decide +kernel
theorem dX6_predicate_29 : decode cX6_predicate 29 = .ok (.aload_n 0, 1) := by decide +kernel
theorem dX6_predicate_30 : decode cX6_predicate 30 = .ok (.iconst 2, 1) := by decide +kernel
theorem dX6_predicate_31 : decode cX6_predicate 31 = .ok (.invokevirtual 208, 3) := by decide +kernel
theorem dX6_predicate_34 : decode cX6_predicate 34 = .ok (.ireturn, 1) := by decide +kernel
theorem dX6_predicate_35 : decode cX6_predicate 35 = .ok (.aload_n 0, 1) := by decide +kernel
theorem dX6_predicate_36 : decode cX6_predicate 36 = .ok (.getfield 46, 3) := by decide +kernel
theorem dX6_predicate_39 : decode cX6_predicate 39 = .ok (.aload_n 0, 1) := by decide +kernel
theorem dX6_predicate_40 : decode cX6_predicate 40 = .ok (.getfield 221, 3) := by decide +kernel
theorem dX6_predicate_43 : decode cX6_predicate 43 = .ok (.iload_n 1, 1) := by decide +kernel
theorem dX6_predicate_44 : decode cX6_predicate 44 = .ok (.iastore, 1) := by decide +kernel
theorem dX6_predicate_45 : decode cX6_predicate 45 = .ok (.aload_n 0, 1) := by decide +kernel
theorem dX6_predicate_46 : decode cX6_predicate 46 = .ok (.dup, 1) := by decide +kernel
theorem dX6_predicate_47 : decode cX6_predicate 47 = .ok (.getfield 221, 3) := by decide +kernel
theorem dX6_predicate_50 : decode cX6_predicate 50 = .ok (.dup_x1, 1) := by decide +kernel
theorem dX6_predicate_51 : decode cX6_predicate 51 = .ok (.iconst 1, 1) := by decide +kernel
theorem dX6_predicate_52 : decode cX6_predicate 52 = .ok (.iadd, 1) := by decide +kernel
theorem dX6_predicate_53 : decode cX6_predicate 53 = .ok (.putfield 221, 3) := by decide +kernel
theorem dX6_predicate_56 : decode cX6_predicate 56 = .ok (.ireturn, 1) := by decide +kernel
theorem dX6_constant_0 : decode cX6_constant 0 = .ok (.aload_n 0, 1) := by decide +kernel
theorem dX6_constant_1 : decode cX6_constant 1 = .ok (.iconst 0, 1) := by decide +kernel
theorem dX6_constant_2 : decode cX6_constant 2 = .ok (.putfield 93, 3) := by decide +kernel
theorem dX6_constant_5 : decode cX6_constant 5 = .ok (.aload_n 0, 1) := by decide +kernel
theorem dX6_constant_6 : decode cX6_constant 6 = .ok (.getfield 205, 3) := by decide +kernel
theorem dX6_constant_9 : decode cX6_constant 9 = .ok (.sipush 1000, 3) := by decide +kernel
theorem dX6_constant_12 : decode cX6_constant 12 = .ok (.if_icmp .ne 9, 3) := by decide +kernel
theorem dX6_constant_15 : decode cX6_constant 15 = .ok (.aload_n 0, 1) := by decide +kernel
theorem dX6_constant_16 : decode cX6_constant 16 = .ok (.iconst 1, 1) := by decide +kernel
theorem dX6_constant_17 : decode cX6_constant 17 = .ok (.invokevirtual 208, 3) := by decide +kernel
theorem dX6_constant_20 : decode cX6_constant 20 = .ok (.ireturn, 1) := by decide +kernel
theorem dX6_constant_21 : decode cX6_constant 21 = .ok (.aload_n 0, 1) := by decide +kernel
theorem dX6_constant_22 : decode cX6_constant 22 = .ok (.aload_n 0, 1) := by decide +kernel
theorem dX6_constant_23 : decode cX6_constant 23 = .ok (.iconst 0, 1) := by decide +kernel
theorem dX6_constant_24 : decode cX6_constant 24 = .ok (.aload_n 0, 1) := by decide +kernel
theorem dX6_constant_25 : decode cX6_constant 25 = .ok (.dup, 1) := by decide +kernel
theorem dX6_constant_26 : decode cX6_constant 26 = .ok (.getfield 224, 3) := by decide +kernel
theorem dX6_constant_29 : decode cX6_constant 29 = .ok (.dup_x1, 1) := by decide +kernel
theorem dX6_constant_30 : decode cX6_constant 30 = .ok (.iconst 1, 1) := by decide +kernel
theorem dX6_constant_31 : decode cX6_constant 31 = .ok (.iadd, 1) := by decide +kernel
theorem dX6_constant_32 : decode cX6_constant 32 = .ok (.putfield 224, 3) := by decide +kernel
theorem dX6_constant_35 : decode cX6_constant 35 = .ok (.invokevirtual 141, 3) := by decide +kernel
theorem dX6_constant_38 : decode cX6_constant 38 = .ok (.iconst 1, 1) := by decide +kernel
theorem dX6_constant_39 : decode cX6_constant 39 = .ok (.invokevirtual 227, 3) := by decide +kernel
theorem dX6_constant_42 : decode cX6_constant 42 = .ok (.ireturn, 1) := by decide +kernel
theorem dX6_locus_0 : decode cX6_locus 0 = .ok (.aload_n 0, 1) := by decide +kernel
theorem dX6_locus_1 : decode cX6_locus 1 = .ok (.iconst 0, 1) := by decide +kernel
theorem dX6_locus_2 : decode cX6_locus 2 = .ok (.putfield 93, 3) := by decide +kernel
theorem dX6_locus_5 : decode cX6_locus 5 = .ok (.iload_n 1, 1) := by decide +kernel
theorem dX6_locus_6 : decode cX6_locus 6 = .ok (.ifCond .lt 8, 3) := by decide +kernel
theorem dX6_locus_9 : decode cX6_locus 9 = .ok (.iload_n 1, 1) := by decide +kernel
theorem dX6_locus_10 : decode cX6_locus 10 = .ok (.iconst 1, 1) := by decide +kernel
theorem dX6_locus_11 : decode cX6_locus 11 = .ok (.if_icmp .le 11, 3) := by decide +kernel
theorem dX6_locus_14 : decode cX6_locus 14 = .ok (.aload_n 0, 1) := by decide +kernel
theorem dX6_locus_15 : decode cX6_locus 15 = .ok (.iconst 1, 1) := by decide +kernel
theorem dX6_locus_16 : decode cX6_locus 16 = .ok (.invokevirtual 208, 3) := by decide +kernel
theorem dX6_locus_19 : decode cX6_locus 19 = .ok (.goto 14, 3) := by decide +kernel
theorem dX6_locus_22 : decode cX6_locus 22 = .ok (.aload_n 0, 1) := by decide +kernel
theorem dX6_locus_23 : decode cX6_locus 23 = .ok (.aload_n 0, 1) := by decide +kernel
theorem dX6_locus_24 : decode cX6_locus 24 = .ok (.iconst 1, 1) := by decide +kernel
theorem dX6_locus_25 : decode cX6_locus 25 = .ok (.iload_n 1, 1) := by decide +kernel
theorem dX6_locus_26 : decode cX6_locus 26 = .ok (.invokevirtual 141, 3) := by decide +kernel
theorem dX6_locus_29 : decode cX6_locus 29 = .ok (.iconst 2, 1) := by decide +kernel
theorem dX6_locus_30 : decode cX6_locus 30 = .ok (.invokevirtual 227, 3) := by decide +kernel
theorem dX6_locus_33 : decode cX6_locus 33 = .ok (.ireturn, 1) := by decide +kernel
theorem dX6_join_0 : decode cX6_join 0 = .ok (.aload_n 0, 1) := by decide +kernel
theorem dX6_join_1 : decode cX6_join 1 = .ok (.iconst 0, 1) := by decide +kernel
theorem dX6_join_2 : decode cX6_join 2 = .ok (.putfield 93, 3) := by decide +kernel
theorem dX6_join_5 : decode cX6_join 5 = .ok (.iload_n 1, 1) := by decide +kernel
theorem dX6_join_6 : decode cX6_join 6 = .ok (.ifCond .lt 8, 3) := by decide +kernel
theorem dX6_join_9 : decode cX6_join 9 = .ok (.iload_n 1, 1) := by decide +kernel
theorem dX6_join_10 : decode cX6_join 10 = .ok (.iconst 5, 1) := by decide +kernel
theorem dX6_join_11 : decode cX6_join 11 = .ok (.if_icmp .le 9, 3) := by decide +kernel
theorem dX6_join_14 : decode cX6_join 14 = .ok (.aload_n 0, 1) := by decide +kernel
theorem dX6_join_15 : decode cX6_join 15 = .ok (.iconst 1, 1) := by decide +kernel
theorem dX6_join_16 : decode cX6_join 16 = .ok (.invokevirtual 208, 3) := by decide +kernel
theorem dX6_join_19 : decode cX6_join 19 = .ok (.ireturn, 1) := by decide +kernel
theorem dX6_join_20 : decode cX6_join 20 = .ok (.iload_n 1, 1) := by decide +kernel
theorem dX6_join_21 : decode cX6_join 21 = .ok (.iconst 5, 1) := by decide +kernel
theorem dX6_join_22 : decode cX6_join 22 = .ok (.if_icmp .ne 31, 3) := by decide +kernel
theorem dX6_join_25 : decode cX6_join 25 = .ok (.iload_n 2, 1) := by decide +kernel
theorem dX6_join_26 : decode cX6_join 26 = .ok (.iconst (-1), 1) := by decide +kernel
theorem dX6_join_27 : decode cX6_join 27 = .ok (.if_icmp .ne 8, 3) := by decide +kernel
theorem dX6_join_30 : decode cX6_join 30 = .ok (.iload_n 3, 1) := by decide +kernel
theorem dX6_join_31 : decode cX6_join 31 = .ok (.iconst (-1), 1) := by decide +kernel
theorem dX6_join_32 : decode cX6_join 32 = .ok (.if_icmp .eq 11, 3) := by decide +kernel
theorem dX6_join_35 : decode cX6_join 35 = .ok (.aload_n 0, 1) := by decide +kernel
theorem dX6_join_36 : decode cX6_join 36 = .ok (.iconst 1, 1) := by decide +kernel
theorem dX6_join_37 : decode cX6_join 37 = .ok (.invokevirtual 208, 3) := by decide +kernel
theorem dX6_join_40 : decode cX6_join 40 = .ok (.goto 12, 3) := by decide +kernel
theorem dX6_join_43 : decode cX6_join 43 = .ok (.aload_n 0, 1) := by decide +kernel
theorem dX6_join_44 : decode cX6_join 44 = .ok (.aload_n 0, 1) := by decide +kernel
theorem dX6_join_45 : decode cX6_join 45 = .ok (.invokevirtual 147, 3) := by decide +kernel
theorem dX6_join_48 : decode cX6_join 48 = .ok (.iconst 2, 1) := by decide +kernel
theorem dX6_join_49 : decode cX6_join 49 = .ok (.invokevirtual 227, 3) := by decide +kernel
theorem dX6_join_52 : decode cX6_join 52 = .ok (.ireturn, 1) := by decide +kernel
theorem dX6_join_53 : decode cX6_join 53 = .ok (.aload_n 0, 1) := by decide +kernel
theorem dX6_join_54 : decode cX6_join 54 = .ok (.iload_n 2, 1) := by decide +kernel
theorem dX6_join_55 : decode cX6_join 55 = .ok (.invokevirtual 215, 3) := by decide +kernel
theorem dX6_join_58 : decode cX6_join 58 = .ok (.istore 4, 2) := by decide +kernel
theorem dX6_join_60 : decode cX6_join 60 = .ok (.aload_n 0, 1) := by decide +kernel
theorem dX6_join_61 : decode cX6_join 61 = .ok (.iload_n 3, 1) := by decide +kernel
theorem dX6_join_62 : decode cX6_join 62 = .ok (.invokevirtual 215, 3) := by decide +kernel
theorem dX6_join_65 : decode cX6_join 65 = .ok (.istore 5, 2) := by decide +kernel
theorem dX6_join_67 : decode cX6_join 67 = .ok (.iload 4, 2) := by decide +kernel
theorem dX6_join_69 : decode cX6_join 69 = .ok (.ifCond .eq 20, 3) := by decide +kernel
theorem dX6_join_72 : decode cX6_join 72 = .ok (.iload_n 1, 1) := by decide +kernel
theorem dX6_join_73 : decode cX6_join 73 = .ok (.ifCond .ne 11, 3) := by decide +kernel
theorem dX6_join_76 : decode cX6_join 76 = .ok (.iload_n 3, 1) := by decide +kernel
theorem dX6_join_77 : decode cX6_join 77 = .ok (.iconst (-1), 1) := by decide +kernel
theorem dX6_join_78 : decode cX6_join 78 = .ok (.if_icmp .eq 17, 3) := by decide +kernel
theorem dX6_join_81 : decode cX6_join 81 = .ok (.goto 8, 3) := by decide +kernel
theorem dX6_join_84 : decode cX6_join 84 = .ok (.iload 5, 2) := by decide +kernel
theorem dX6_join_86 : decode cX6_join 86 = .ok (.ifCond .ne 9, 3) := by decide +kernel
theorem dX6_join_89 : decode cX6_join 89 = .ok (.aload_n 0, 1) := by decide +kernel
theorem dX6_join_90 : decode cX6_join 90 = .ok (.iconst 1, 1) := by decide +kernel
theorem dX6_join_91 : decode cX6_join 91 = .ok (.invokevirtual 208, 3) := by decide +kernel
theorem dX6_join_94 : decode cX6_join 94 = .ok (.ireturn, 1) := by decide +kernel
theorem dX6_join_95 : decode cX6_join 95 = .ok (.iload_n 1, 1) := by decide +kernel
theorem dX6_join_96 : decode cX6_join 96 = .ok (.tableswitch 98 0 3 #[32, 44, 58, 84], 32) := by decide +kernel
theorem dX6_join_128 : decode cX6_join 128 = .ok (.aload_n 0, 1) := by decide +kernel
theorem dX6_join_129 : decode cX6_join 129 = .ok (.aload_n 0, 1) := by decide +kernel
theorem dX6_join_130 : decode cX6_join 130 = .ok (.iload 4, 2) := by decide +kernel
theorem dX6_join_132 : decode cX6_join 132 = .ok (.invokevirtual 154, 3) := by decide +kernel
theorem dX6_join_135 : decode cX6_join 135 = .ok (.iconst 2, 1) := by decide +kernel
theorem dX6_join_136 : decode cX6_join 136 = .ok (.invokevirtual 227, 3) := by decide +kernel
theorem dX6_join_139 : decode cX6_join 139 = .ok (.ireturn, 1) := by decide +kernel
theorem dX6_join_140 : decode cX6_join 140 = .ok (.aload_n 0, 1) := by decide +kernel
theorem dX6_join_141 : decode cX6_join 141 = .ok (.aload_n 0, 1) := by decide +kernel
theorem dX6_join_142 : decode cX6_join 142 = .ok (.iload 4, 2) := by decide +kernel
theorem dX6_join_144 : decode cX6_join 144 = .ok (.iload 5, 2) := by decide +kernel
theorem dX6_join_146 : decode cX6_join 146 = .ok (.invokevirtual 157, 3) := by decide +kernel
theorem dX6_join_149 : decode cX6_join 149 = .ok (.iconst 2, 1) := by decide +kernel
theorem dX6_join_150 : decode cX6_join 150 = .ok (.invokevirtual 227, 3) := by decide +kernel
theorem dX6_join_153 : decode cX6_join 153 = .ok (.ireturn, 1) := by decide +kernel
theorem dX6_join_154 : decode cX6_join 154 = .ok (.aload_n 0, 1) := by decide +kernel
theorem dX6_join_155 : decode cX6_join 155 = .ok (.aload_n 0, 1) := by decide +kernel
theorem dX6_join_156 : decode cX6_join 156 = .ok (.aload_n 0, 1) := by decide +kernel
theorem dX6_join_157 : decode cX6_join 157 = .ok (.aload_n 0, 1) := by decide +kernel
theorem dX6_join_158 : decode cX6_join 158 = .ok (.iload 4, 2) := by decide +kernel
theorem dX6_join_160 : decode cX6_join 160 = .ok (.invokevirtual 154, 3) := by decide +kernel
theorem dX6_join_163 : decode cX6_join 163 = .ok (.aload_n 0, 1) := by decide +kernel
theorem dX6_join_164 : decode cX6_join 164 = .ok (.iload 5, 2) := by decide +kernel
theorem dX6_join_166 : decode cX6_join 166 = .ok (.invokevirtual 154, 3) := by decide +kernel
theorem dX6_join_169 : decode cX6_join 169 = .ok (.invokevirtual 157, 3) := by decide +kernel
theorem dX6_join_172 : decode cX6_join 172 = .ok (.invokevirtual 154, 3) := by decide +kernel
theorem dX6_join_175 : decode cX6_join 175 = .ok (.iconst 2, 1) := by decide +kernel
theorem dX6_join_176 : decode cX6_join 176 = .ok (.invokevirtual 227, 3) := by decide +kernel
theorem dX6_join_179 : decode cX6_join 179 = .ok (.ireturn, 1) := by decide +kernel
theorem dX6_join_180 : decode cX6_join 180 = .ok (.aload_n 0, 1) := by decide +kernel
theorem dX6_join_181 : decode cX6_join 181 = .ok (.aload_n 0, 1) := by decide +kernel
theorem dX6_join_182 : decode cX6_join 182 = .ok (.iload 4, 2) := by decide +kernel
theorem dX6_join_184 : decode cX6_join 184 = .ok (.iload 5, 2) := by decide +kernel
theorem dX6_join_186 : decode cX6_join 186 = .ok (.invokevirtual 202, 3) := by decide +kernel
theorem dX6_join_189 : decode cX6_join 189 = .ok (.iconst 2, 1) := by decide +kernel
theorem dX6_join_190 : decode cX6_join 190 = .ok (.invokevirtual 227, 3) := by decide +kernel
theorem dX6_join_193 : decode cX6_join 193 = .ok (.ireturn, 1) := by decide +kernel
theorem dX6_join_194 : decode cX6_join 194 = .ok (.aload_n 0, 1) := by decide +kernel
theorem dX6_join_195 : decode cX6_join 195 = .ok (.aload_n 0, 1) := by decide +kernel
theorem dX6_join_196 : decode cX6_join 196 = .ok (.aload_n 0, 1) := by decide +kernel
theorem dX6_join_197 : decode cX6_join 197 = .ok (.iload 4, 2) := by decide +kernel
theorem dX6_join_199 : decode cX6_join 199 = .ok (.iload 5, 2) := by decide +kernel
theorem dX6_join_201 : decode cX6_join 201 = .ok (.invokevirtual 202, 3) := by decide +kernel
theorem dX6_join_204 : decode cX6_join 204 = .ok (.aload_n 0, 1) := by decide +kernel
theorem dX6_join_205 : decode cX6_join 205 = .ok (.iload 5, 2) := by decide +kernel
theorem dX6_join_207 : decode cX6_join 207 = .ok (.iload 4, 2) := by decide +kernel
theorem dX6_join_209 : decode cX6_join 209 = .ok (.invokevirtual 202, 3) := by decide +kernel
theorem dX6_join_212 : decode cX6_join 212 = .ok (.invokevirtual 157, 3) := by decide +kernel
theorem dX6_join_215 : decode cX6_join 215 = .ok (.iconst 2, 1) := by decide +kernel
theorem dX6_join_216 : decode cX6_join 216 = .ok (.invokevirtual 227, 3) := by decide +kernel
theorem dX6_join_219 : decode cX6_join 219 = .ok (.ireturn, 1) := by decide +kernel
theorem dX6_now_0 : decode cX6_now 0 = .ok (.aload_n 0, 1) := by decide +kernel
theorem dX6_now_1 : decode cX6_now 1 = .ok (.iconst 0, 1) := by decide +kernel
theorem dX6_now_2 : decode cX6_now 2 = .ok (.putfield 93, 3) := by decide +kernel
theorem dX6_now_5 : decode cX6_now 5 = .ok (.aload_n 0, 1) := by decide +kernel
theorem dX6_now_6 : decode cX6_now 6 = .ok (.getfield 187, 3) := by decide +kernel
theorem dX6_now_9 : decode cX6_now 9 = .ok (.bipush 40, 2) := by decide +kernel
theorem dX6_now_11 : decode cX6_now 11 = .ok (.if_icmp .eq 17, 3) := by decide +kernel
theorem dX6_now_14 : decode cX6_now 14 = .ok (.aload_n 0, 1) := by decide +kernel
theorem dX6_now_15 : decode cX6_now 15 = .ok (.getfield 187, 3) := by decide +kernel
theorem dX6_now_18 : decode cX6_now 18 = .ok (.ifCond .le 16, 3) := by decide +kernel
theorem dX6_now_21 : decode cX6_now 21 = .ok (.aload_n 0, 1) := by decide +kernel
theorem dX6_now_22 : decode cX6_now 22 = .ok (.invokevirtual 239, 3) := by decide +kernel
theorem dX6_now_25 : decode cX6_now 25 = .ok (.ifCond .ne 9, 3) := by decide +kernel
theorem dX6_now_28 : decode cX6_now 28 = .ok (.aload_n 0, 1) := by decide +kernel
theorem dX6_now_29 : decode cX6_now 29 = .ok (.iconst 1, 1) := by decide +kernel
theorem dX6_now_30 : decode cX6_now 30 = .ok (.invokevirtual 208, 3) := by decide +kernel
theorem dX6_now_33 : decode cX6_now 33 = .ok (.ireturn, 1) := by decide +kernel
theorem dX6_now_34 : decode cX6_now 34 = .ok (.aload_n 0, 1) := by decide +kernel
theorem dX6_now_35 : decode cX6_now 35 = .ok (.iconst 2, 1) := by decide +kernel
theorem dX6_now_36 : decode cX6_now 36 = .ok (.aload_n 0, 1) := by decide +kernel
theorem dX6_now_37 : decode cX6_now 37 = .ok (.invokevirtual 147, 3) := by decide +kernel
theorem dX6_now_40 : decode cX6_now 40 = .ok (.invokevirtual 243, 3) := by decide +kernel
theorem dX6_now_43 : decode cX6_now 43 = .ok (.ireturn, 1) := by decide +kernel
theorem dX6_count_0 : decode cX6_count 0 = .ok (.aload_n 0, 1) := by decide +kernel
theorem dX6_count_1 : decode cX6_count 1 = .ok (.iconst 0, 1) := by decide +kernel
theorem dX6_count_2 : decode cX6_count 2 = .ok (.putfield 93, 3) := by decide +kernel
theorem dX6_count_5 : decode cX6_count 5 = .ok (.iload_n 1, 1) := by decide +kernel
theorem dX6_count_6 : decode cX6_count 6 = .ok (.tableswitch 59 0 4 #[34, 39, 44, 49, 54], 34) := by decide +kernel
theorem dX6_count_40 : decode cX6_count 40 = .ok (.aload_n 0, 1) := by decide +kernel
theorem dX6_count_41 : decode cX6_count 41 = .ok (.getfield 205, 3) := by decide +kernel
theorem dX6_count_44 : decode cX6_count 44 = .ok (.ireturn, 1) := by decide +kernel
theorem dX6_count_45 : decode cX6_count 45 = .ok (.aload_n 0, 1) := by decide +kernel
theorem dX6_count_46 : decode cX6_count 46 = .ok (.getfield 221, 3) := by decide +kernel
theorem dX6_count_49 : decode cX6_count 49 = .ok (.ireturn, 1) := by decide +kernel
theorem dX6_count_50 : decode cX6_count 50 = .ok (.aload_n 0, 1) := by decide +kernel
theorem dX6_count_51 : decode cX6_count 51 = .ok (.getfield 187, 3) := by decide +kernel
theorem dX6_count_54 : decode cX6_count 54 = .ok (.ireturn, 1) := by decide +kernel
theorem dX6_count_55 : decode cX6_count 55 = .ok (.aload_n 0, 1) := by decide +kernel
theorem dX6_count_56 : decode cX6_count 56 = .ok (.getfield 199, 3) := by decide +kernel
theorem dX6_count_59 : decode cX6_count 59 = .ok (.ireturn, 1) := by decide +kernel
theorem dX6_count_60 : decode cX6_count 60 = .ok (.aload_n 0, 1) := by decide +kernel
theorem dX6_count_61 : decode cX6_count 61 = .ok (.getfield 224, 3) := by decide +kernel
theorem dX6_count_64 : decode cX6_count 64 = .ok (.ireturn, 1) := by decide +kernel
theorem dX6_count_65 : decode cX6_count 65 = .ok (.aload_n 0, 1) := by decide +kernel
theorem dX6_count_66 : decode cX6_count 66 = .ok (.iconst 1, 1) := by decide +kernel
theorem dX6_count_67 : decode cX6_count 67 = .ok (.invokevirtual 208, 3) := by decide +kernel
theorem dX6_count_70 : decode cX6_count 70 = .ok (.ireturn, 1) := by decide +kernel
