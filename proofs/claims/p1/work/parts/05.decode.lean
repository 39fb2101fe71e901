theorem dX1_of_0 : decode cX1_of 0 = .ok (.iload_n 1, 1) := by decide +kernel
theorem dX1_of_1 : decode cX1_of 1 = .ok (.iconst 4, 1) := by decide +kernel
theorem dX1_of_2 : decode cX1_of 2 = .ok (.ishl, 1) := by decide +kernel
theorem dX1_of_3 : decode cX1_of 3 = .ok (.iload_n 0, 1) := by decide +kernel
theorem dX1_of_4 : decode cX1_of 4 = .ok (.ior, 1) := by decide +kernel
theorem dX1_of_5 : decode cX1_of 5 = .ok (.ireturn, 1) := by decide +kernel
theorem dX1_kind_0 : decode cX1_kind 0 = .ok (.iload_n 0, 1) := by decide +kernel
theorem dX1_kind_1 : decode cX1_kind 1 = .ok (.bipush 15, 2) := by decide +kernel
theorem dX1_kind_3 : decode cX1_kind 3 = .ok (.iand, 1) := by decide +kernel
theorem dX1_kind_4 : decode cX1_kind 4 = .ok (.ireturn, 1) := by decide +kernel
theorem dX1_value_0 : decode cX1_value 0 = .ok (.iload_n 0, 1) := by decide +kernel
theorem dX1_value_1 : decode cX1_value 1 = .ok (.iconst 4, 1) := by decide +kernel
theorem dX1_value_2 : decode cX1_value 2 = .ok (.ishr, 1) := by decide +kernel
theorem dX1_value_3 : decode cX1_value 3 = .ok (.ireturn, 1) := by decide +kernel
theorem dX5_isPredicate_0 : decode cX5_isPredicate 0 = .ok (.iload_n 1, 1) := by decide +kernel
theorem dX5_isPredicate_1 : decode cX5_isPredicate 1 = .ok (.ifCond .lt 21, 3) := by decide +kernel
theorem dX5_isPredicate_4 : decode cX5_isPredicate 4 = .ok (.iload_n 1, 1) := by decide +kernel
theorem dX5_isPredicate_5 : decode cX5_isPredicate 5 = .ok (.aload_n 0, 1) := by decide +kernel
theorem dX5_isPredicate_6 : decode cX5_isPredicate 6 = .ok (.getfield 58, 3) := by decide +kernel
theorem dX5_isPredicate_9 : decode cX5_isPredicate 9 = .ok (.if_icmp .ge 13, 3) := by decide +kernel
theorem dX5_isPredicate_12 : decode cX5_isPredicate 12 = .ok (.iload_n 1, 1) := by decide +kernel
theorem dX5_isPredicate_13 : decode cX5_isPredicate 13 = .ok (.bipush 30, 2) := by decide +kernel
theorem dX5_isPredicate_15 : decode cX5_isPredicate 15 = .ok (.if_icmp .ge 7, 3) := by decide +kernel
theorem dX5_isPredicate_18 : decode cX5_isPredicate 18 = .ok (.iconst 1, 1) := by decide +kernel
theorem dX5_isPredicate_19 : decode cX5_isPredicate 19 = .ok (.goto 4, 3) := by decide +kernel
theorem dX5_isPredicate_22 : decode cX5_isPredicate 22 = .ok (.iconst 0, 1) := by decide +kernel
theorem dX5_isPredicate_23 : decode cX5_isPredicate 23 = .ok (.ireturn, 1) := by decide +kernel
theorem dX5_formAt_0 : decode cX5_formAt 0 = .ok (.iload_n 1, 1) := by decide +kernel
theorem dX5_formAt_1 : decode cX5_formAt 1 = .ok (.ifCond .lt 27, 3) := by decide +kernel
theorem dX5_formAt_4 : decode cX5_formAt 4 = .ok (.iload_n 1, 1) := by decide +kernel
theorem dX5_formAt_5 : decode cX5_formAt 5 = .ok (.aload_n 0, 1) := by decide +kernel
theorem dX5_formAt_6 : decode cX5_formAt 6 = .ok (.getfield 254, 3) := by decide +kernel
theorem dX5_formAt_9 : decode cX5_formAt 9 = .ok (.if_icmp .ge 19, 3) := by decide +kernel
theorem dX5_formAt_12 : decode cX5_formAt 12 = .ok (.iload_n 1, 1) := by decide +kernel
theorem dX5_formAt_13 : decode cX5_formAt 13 = .ok (.sipush 1000, 3) := by decide +kernel
theorem dX5_formAt_16 : decode cX5_formAt 16 = .ok (.if_icmp .ge 12, 3) := by decide +kernel
theorem dX5_formAt_19 : decode cX5_formAt 19 = .ok (.aload_n 0, 1) := by decide +kernel
theorem dX5_formAt_20 : decode cX5_formAt 20 = .ok (.getfield 11, 3) := by decide +kernel
theorem dX5_formAt_23 : decode cX5_formAt 23 = .ok (.iload_n 1, 1) := by decide +kernel
theorem dX5_formAt_24 : decode cX5_formAt 24 = .ok (.aaload, 1) := by decide +kernel
theorem dX5_formAt_25 : decode cX5_formAt 25 = .ok (.goto 4, 3) := by decide +kernel
theorem dX5_formAt_28 : decode cX5_formAt 28 = .ok (.aconst_null, 1) := by decide +kernel
theorem dX5_formAt_29 : decode cX5_formAt 29 = .ok (.areturn, 1) := by decide +kernel
theorem dX5_wholeAt_0 : decode cX5_wholeAt 0 = .ok (.aload_n 0, 1) := by decide +kernel
theorem dX5_wholeAt_1 : decode cX5_wholeAt 1 = .ok (.iload_n 1, 1) := by decide +kernel
theorem dX5_wholeAt_2 : decode cX5_wholeAt 2 = .ok (.invokevirtual 226, 3) := by decide +kernel
theorem dX5_wholeAt_5 : decode cX5_wholeAt 5 = .ok (.astore_n 2, 1) := by decide +kernel
theorem dX5_wholeAt_6 : decode cX5_wholeAt 6 = .ok (.aload_n 2, 1) := by decide +kernel
theorem dX5_wholeAt_7 : decode cX5_wholeAt 7 = .ok (.ifnull 14, 3) := by decide +kernel
theorem dX5_wholeAt_10 : decode cX5_wholeAt 10 = .ok (.aload_n 2, 1) := by decide +kernel
theorem dX5_wholeAt_11 : decode cX5_wholeAt 11 = .ok (.getfield 265, 3) := by decide +kernel
theorem dX5_wholeAt_14 : decode cX5_wholeAt 14 = .ok (.ifCond .eq 7, 3) := by decide +kernel
theorem dX5_wholeAt_17 : decode cX5_wholeAt 17 = .ok (.aload_n 2, 1) := by decide +kernel
theorem dX5_wholeAt_18 : decode cX5_wholeAt 18 = .ok (.goto 4, 3) := by decide +kernel
theorem dX5_wholeAt_21 : decode cX5_wholeAt 21 = .ok (.aconst_null, 1) := by decide +kernel
theorem dX5_wholeAt_22 : decode cX5_wholeAt 22 = .ok (.areturn, 1) := by decide +kernel
theorem dX5_formulaAt_0 : decode cX5_formulaAt 0 = .ok (.aload_n 0, 1) := by decide +kernel
theorem dX5_formulaAt_1 : decode cX5_formulaAt 1 = .ok (.iload_n 1, 1) := by decide +kernel
theorem dX5_formulaAt_2 : decode cX5_formulaAt 2 = .ok (.invokevirtual 268, 3) := by decide +kernel
theorem dX5_formulaAt_5 : decode cX5_formulaAt 5 = .ok (.astore_n 2, 1) := by decide +kernel
theorem dX5_formulaAt_6 : decode cX5_formulaAt 6 = .ok (.aload_n 2, 1) := by decide +kernel
theorem dX5_formulaAt_7 : decode cX5_formulaAt 7 = .ok (.ifnull 14, 3) := by decide +kernel
theorem dX5_formulaAt_10 : decode cX5_formulaAt 10 = .ok (.aload_n 2, 1) := by decide +kernel
theorem dX5_formulaAt_11 : decode cX5_formulaAt 11 = .ok (.invokevirtual 271, 3) := by decide +kernel
theorem dX5_formulaAt_14 : decode cX5_formulaAt 14 = .ok (.ifCond .ne 7, 3) := by decide +kernel
theorem dX5_formulaAt_17 : decode cX5_formulaAt 17 = .ok (.aload_n 2, 1) := by decide +kernel
theorem dX5_formulaAt_18 : decode cX5_formulaAt 18 = .ok (.goto 4, 3) := by decide +kernel
theorem dX5_formulaAt_21 : decode cX5_formulaAt 21 = .ok (.aconst_null, 1) := by decide +kernel
theorem dX5_formulaAt_22 : decode cX5_formulaAt 22 = .ok (.areturn, 1) := by decide +kernel
theorem dX5_closedAt_0 : decode cX5_closedAt 0 = .ok (.aload_n 0, 1) := by decide +kernel
theorem dX5_closedAt_1 : decode cX5_closedAt 1 = .ok (.iload_n 1, 1) := by decide +kernel
theorem dX5_closedAt_2 : decode cX5_closedAt 2 = .ok (.invokevirtual 67, 3) := by decide +kernel
theorem dX5_closedAt_5 : decode cX5_closedAt 5 = .ok (.astore_n 2, 1) := by decide +kernel
theorem dX5_closedAt_6 : decode cX5_closedAt 6 = .ok (.aload_n 2, 1) := by decide +kernel
theorem dX5_closedAt_7 : decode cX5_closedAt 7 = .ok (.ifnull 14, 3) := by decide +kernel
theorem dX5_closedAt_10 : decode cX5_closedAt 10 = .ok (.aload_n 2, 1) := by decide +kernel
theorem dX5_closedAt_11 : decode cX5_closedAt 11 = .ok (.getfield 75, 3) := by decide +kernel
theorem dX5_closedAt_14 : decode cX5_closedAt 14 = .ok (.ifCond .ne 7, 3) := by decide +kernel
theorem dX5_closedAt_17 : decode cX5_closedAt 17 = .ok (.aload_n 2, 1) := by decide +kernel
theorem dX5_closedAt_18 : decode cX5_closedAt 18 = .ok (.goto 4, 3) := by decide +kernel
theorem dX5_closedAt_21 : decode cX5_closedAt 21 = .ok (.aconst_null, 1) := by decide +kernel
theorem dX5_closedAt_22 : decode cX5_closedAt 22 = .ok (.areturn, 1) := by decide +kernel
theorem dX5_termAt_0 : decode cX5_termAt 0 = .ok (.aload_n 0, 1) := by decide +kernel
theorem dX5_termAt_1 : decode cX5_termAt 1 = .ok (.iload_n 1, 1) := by decide +kernel
theorem dX5_termAt_2 : decode cX5_termAt 2 = .ok (.invokevirtual 268, 3) := by decide +kernel
theorem dX5_termAt_5 : decode cX5_termAt 5 = .ok (.astore_n 2, 1) := by decide +kernel
theorem dX5_termAt_6 : decode cX5_termAt 6 = .ok (.aload_n 2, 1) := by decide +kernel
theorem dX5_termAt_7 : decode cX5_termAt 7 = .ok (.ifnull 14, 3) := by decide +kernel
theorem dX5_termAt_10 : decode cX5_termAt 10 = .ok (.aload_n 2, 1) := by decide +kernel
theorem dX5_termAt_11 : decode cX5_termAt 11 = .ok (.invokevirtual 271, 3) := by decide +kernel
theorem dX5_termAt_14 : decode cX5_termAt 14 = .ok (.ifCond .eq 7, 3) := by decide +kernel
theorem dX5_termAt_17 : decode cX5_termAt 17 = .ok (.aload_n 2, 1) := by decide +kernel
theorem dX5_termAt_18 : decode cX5_termAt 18 = .ok (.goto 4, 3) := by decide +kernel
theorem dX5_termAt_21 : decode cX5_termAt 21 = .ok (.aconst_null, 1) := by decide +kernel
theorem dX5_termAt_22 : decode cX5_termAt 22 = .ok (.areturn, 1) := by decide +kernel
theorem dX5_constantAt_0 : decode cX5_constantAt 0 = .ok (.aload_n 0, 1) := by decide +kernel
theorem dX5_constantAt_1 : decode cX5_constantAt 1 = .ok (.iload_n 1, 1) := by decide +kernel
theorem dX5_constantAt_2 : decode cX5_constantAt 2 = .ok (.invokevirtual 226, 3) := by decide +kernel
theorem dX5_constantAt_5 : decode cX5_constantAt 5 = .ok (.astore_n 2, 1) := by decide +kernel
theorem dX5_constantAt_6 : decode cX5_constantAt 6 = .ok (.aload_n 2, 1) := by decide +kernel
theorem dX5_constantAt_7 : decode cX5_constantAt 7 = .ok (.ifnull 20, 3) := by decide +kernel
theorem dX5_constantAt_10 : decode cX5_constantAt 10 = .ok (.aload_n 2, 1) := by decide +kernel
theorem dX5_constantAt_11 : decode cX5_constantAt 11 = .ok (.invokevirtual 231, 3) := by decide +kernel
theorem dX5_constantAt_14 : decode cX5_constantAt 14 = .ok (.invokestatic 234, 3) := by decide +kernel
theorem dX5_constantAt_17 : decode cX5_constantAt 17 = .ok (.ifCond .ne 10, 3) := by decide +kernel
theorem dX5_constantAt_20 : decode cX5_constantAt 20 = .ok (.aload_n 2, 1) := by decide +kernel
theorem dX5_constantAt_21 : decode cX5_constantAt 21 = .ok (.invokevirtual 231, 3) := by decide +kernel
theorem dX5_constantAt_24 : decode cX5_constantAt 24 = .ok (.goto 4, 3) := by decide +kernel
theorem dX5_constantAt_27 : decode cX5_constantAt 27 = .ok (.iconst (-1), 1) := by decide +kernel
theorem dX5_constantAt_28 : decode cX5_constantAt 28 = .ok (.ireturn, 1) := by decide +kernel
theorem dX5_openBlock_0 : decode cX5_openBlock 0 = .ok (.aload_n 0, 1) := by decide +kernel
theorem dX5_openBlock_1 : decode cX5_openBlock 1 = .ok (.getfield 200, 3) := by decide +kernel
theorem dX5_openBlock_4 : decode cX5_openBlock 4 = .ok (.ifCond .le 26, 3) := by decide +kernel
theorem dX5_openBlock_7 : decode cX5_openBlock 7 = .ok (.aload_n 0, 1) := by decide +kernel
theorem dX5_openBlock_8 : decode cX5_openBlock 8 = .ok (.getfield 200, 3) := by decide +kernel
theorem dX5_openBlock_11 : decode cX5_openBlock 11 = .ok (.bipush 40, 2) := by decide +kernel
theorem dX5_openBlock_13 : decode cX5_openBlock 13 = .ok (.if_icmp .gt 17, 3) := by decide +kernel
theorem dX5_openBlock_16 : decode cX5_openBlock 16 = .ok (.aload_n 0, 1) := by decide +kernel
theorem dX5_openBlock_17 : decode cX5_openBlock 17 = .ok (.getfield 24, 3) := by decide +kernel
theorem dX5_openBlock_20 : decode cX5_openBlock 20 = .ok (.aload_n 0, 1) := by decide +kernel
theorem dX5_openBlock_21 : decode cX5_openBlock 21 = .ok (.getfield 200, 3) := by decide +kernel
theorem dX5_openBlock_24 : decode cX5_openBlock 24 = .ok (.iconst 1, 1) := by decide +kernel
theorem dX5_openBlock_25 : decode cX5_openBlock 25 = .ok (.isub, 1) := by decide +kernel
theorem dX5_openBlock_26 : decode cX5_openBlock 26 = .ok (.aaload, 1) := by decide +kernel
theorem dX5_openBlock_27 : decode cX5_openBlock 27 = .ok (.goto 4, 3) := by decide +kernel
theorem dX5_openBlock_30 : decode cX5_openBlock 30 = .ok (.aconst_null, 1) := by decide +kernel
theorem dX5_openBlock_31 : decode cX5_openBlock 31 = .ok (.areturn, 1) := by decide +kernel
theorem dX5_isTermOrNone_0 : decode cX5_isTermOrNone 0 = .ok (.iload_n 2, 1) := by decide +kernel
theorem dX5_isTermOrNone_1 : decode cX5_isTermOrNone 1 = .ok (.ifCond .eq 19, 3) := by decide +kernel
theorem dX5_isTermOrNone_4 : decode cX5_isTermOrNone 4 = .ok (.aload_n 0, 1) := by decide +kernel
theorem dX5_isTermOrNone_5 : decode cX5_isTermOrNone 5 = .ok (.iload_n 1, 1) := by decide +kernel
theorem dX5_isTermOrNone_6 : decode cX5_isTermOrNone 6 = .ok (.invokevirtual 274, 3) := by decide +kernel
theorem dX5_isTermOrNone_9 : decode cX5_isTermOrNone 9 = .ok (.ifnull 7, 3) := by decide +kernel
theorem dX5_isTermOrNone_12 : decode cX5_isTermOrNone 12 = .ok (.iconst 1, 1) := by decide +kernel
theorem dX5_isTermOrNone_13 : decode cX5_isTermOrNone 13 = .ok (.goto 17, 3) := by decide +kernel
theorem dX5_isTermOrNone_16 : decode cX5_isTermOrNone 16 = .ok (.iconst 0, 1) := by decide +kernel
theorem dX5_isTermOrNone_17 : decode cX5_isTermOrNone 17 = .ok (.goto 13, 3) := by decide +kernel
theorem dX5_isTermOrNone_20 : decode cX5_isTermOrNone 20 = .ok (.iload_n 1, 1) := by decide +kernel
theorem dX5_isTermOrNone_21 : decode cX5_isTermOrNone 21 = .ok (.iconst (-1), 1) := by decide +kernel
theorem dX5_isTermOrNone_22 : decode cX5_isTermOrNone 22 = .ok (.if_icmp .ne 7, 3) := by decide +kernel
theorem dX5_isTermOrNone_25 : decode cX5_isTermOrNone 25 = .ok (.iconst 1, 1) := by decide +kernel
theorem dX5_isTermOrNone_26 : decode cX5_isTermOrNone 26 = .ok (.goto 4, 3) := by decide +kernel
theorem dX5_isTermOrNone_29 : decode cX5_isTermOrNone 29 = .ok (.iconst 0, 1) := by decide +kernel
theorem dX5_isTermOrNone_30 : decode cX5_isTermOrNone 30 = .ok (.ireturn, 1) := by decide +kernel
theorem dX5_isFormulaOrNone_0 : decode cX5_isFormulaOrNone 0 = .ok (.iload_n 2, 1) := by decide +kernel
theorem dX5_isFormulaOrNone_1 : decode cX5_isFormulaOrNone 1 = .ok (.ifCond .eq 19, 3) := by decide +kernel
theorem dX5_isFormulaOrNone_4 : decode cX5_isFormulaOrNone 4 = .ok (.aload_n 0, 1) := by decide +kernel
theorem dX5_isFormulaOrNone_5 : decode cX5_isFormulaOrNone 5 = .ok (.iload_n 1, 1) := by decide +kernel
theorem dX5_isFormulaOrNone_6 : decode cX5_isFormulaOrNone 6 = .ok (.invokevirtual 67, 3) := by decide +kernel
theorem dX5_isFormulaOrNone_9 : decode cX5_isFormulaOrNone 9 = .ok (.ifnull 7, 3) := by decide +kernel
theorem dX5_isFormulaOrNone_12 : decode cX5_isFormulaOrNone 12 = .ok (.iconst 1, 1) := by decide +kernel
theorem dX5_isFormulaOrNone_13 : decode cX5_isFormulaOrNone 13 = .ok (.goto 17, 3) := by decide +kernel
theorem dX5_isFormulaOrNone_16 : decode cX5_isFormulaOrNone 16 = .ok (.iconst 0, 1) := by decide +kernel
theorem dX5_isFormulaOrNone_17 : decode cX5_isFormulaOrNone 17 = .ok (.goto 13, 3) := by decide +kernel
theorem dX5_isFormulaOrNone_20 : decode cX5_isFormulaOrNone 20 = .ok (.iload_n 1, 1) := by decide +kernel
theorem dX5_isFormulaOrNone_21 : decode cX5_isFormulaOrNone 21 = .ok (.iconst (-1), 1) := by decide +kernel
theorem dX5_isFormulaOrNone_22 : decode cX5_isFormulaOrNone 22 = .ok (.if_icmp .ne 7, 3) := by decide +kernel
theorem dX5_isFormulaOrNone_25 : decode cX5_isFormulaOrNone 25 = .ok (.iconst 1, 1) := by decide +kernel
theorem dX5_isFormulaOrNone_26 : decode cX5_isFormulaOrNone 26 = .ok (.goto 4, 3) := by decide +kernel
theorem dX5_isFormulaOrNone_29 : decode cX5_isFormulaOrNone 29 = .ok (.iconst 0, 1) := by decide +kernel
theorem dX5_isFormulaOrNone_30 : decode cX5_isFormulaOrNone 30 = .ok (.ireturn, 1) := by decide +kernel
theorem dX5_predicate_0 : decode cX5_predicate 0 = .ok (.iload_n 1, 1) := by decide +kernel
theorem dX5_predicate_1 : decode cX5_predicate 1 = .ok (.ifCond .lt 8, 3) := by decide +kernel
theorem dX5_predicate_4 : decode cX5_predicate 4 = .ok (.iload_n 1, 1) := by decide +kernel
theorem dX5_predicate_5 : decode cX5_predicate 5 = .ok (.iconst 2, 1) := by decide +kernel
theorem dX5_predicate_6 : decode cX5_predicate 6 = .ok (.if_icmp .le 13, 3) := by decide +kernel
theorem dX5_predicate_9 : decode cX5_predicate 9 = .ok (.new 51, 3) := by decide +kernel
theorem dX5_predicate_12 : decode cX5_predicate 12 = .ok (.dup, 1) := by decide +kernel
theorem dX5_predicate_13 : decode cX5_predicate 13 = .ok (.ldc 53, 2) := by decide +kernel
theorem dX5_predicate_15 : decode cX5_predicate 15 = .ok (.invokespecial 55, 3) := by decide +kernel
theorem dX5_predicate_18 : decode cX5_predicate 18 = .ok (.athrow, 1) := by decide +kernel
theorem dX5_predicate_19 : decode cX5_predicate 19 = .ok (.aload_n 0, 1) := by decide +kernel
theorem dX5_predicate_20 : decode cX5_predicate 20 = .ok (.getfield 58, 3) := by decide +kernel
theorem dX5_predicate_23 : decode cX5_predicate 23 = .ok (.bipush 30, 2) := by decide +kernel
theorem dX5_predicate_25 : decode cX5_predicate 25 = .ok (.if_icmp .lt 13, 3) := by decide +kernel
theorem dX5_predicate_28 : decode cX5_predicate 28 = .ok (.new 62, 3) := by decide +kernel
theorem dX5_predicate_31 : decode cX5_predicate 31 = .ok (.dup, 1) := by decide +kernel
theorem dX5_predicate_32 : decode cX5_predicate 32 = .ok (.ldc 64, 2) := by decide +kernel
theorem dX5_predicate_34 : decode cX5_predicate 34 = .ok (.invokespecial 66, 3) := by decide +kernel
theorem dX5_predicate_37 : decode cX5_predicate 37 = .ok (.athrow, 1) := by decide +kernel
theorem dX5_predicate_38 : decode cX5_predicate 38 = .ok (.aload_n 0, 1) := by decide +kernel
theorem dX5_predicate_39 : decode cX5_predicate 39 = .ok (.getfield 15, 3) := by decide +kernel
theorem dX5_predicate_42 : decode cX5_predicate 42 = .ok (.aload_n 0, 1) := by decide +kernel
theorem dX5_predicate_43 : decode cX5_predicate 43 = .ok (.getfield 58, 3) := by decide +kernel
theorem dX5_predicate_46 : decode cX5_predicate 46 = .ok (.iload_n 1, 1) := by decide +kernel
theorem dX5_predicate_47 : decode cX5_predicate 47 = .ok (.iastore, 1) := by decide +kernel
theorem dX5_predicate_48 : decode cX5_predicate 48 = .ok (.aload_n 0, 1) := by decide +kernel
theorem dX5_predicate_49 : decode cX5_predicate 49 = .ok (.dup, 1) := by decide +kernel
theorem dX5_predicate_50 : decode cX5_predicate 50 = .ok (.getfield 58, 3) := by decide +kernel
theorem dX5_predicate_53 : decode cX5_predicate 53 = .ok (.iconst 1, 1) := by decide +kernel
theorem dX5_predicate_54 : decode cX5_predicate 54 = .ok (.iadd, 1) := by decide +kernel
theorem dX5_predicate_55 : decode cX5_predicate 55 = .ok (.putfield 58, 3) := by decide +kernel
theorem dX5_predicate_58 : decode cX5_predicate 58 = .ok (.aload_n 0, 1) := by decide +kernel
theorem dX5_predicate_59 : decode cX5_predicate 59 = .ok (.getfield 58, 3) := by decide +kernel
theorem dX5_predicate_62 : decode cX5_predicate 62 = .ok (.iconst 1, 1) := by decide +kernel
theorem dX5_predicate_63 : decode cX5_predicate 63 = .ok (.isub, 1) := by decide +kernel
theorem dX5_predicate_64 : decode cX5_predicate 64 = .ok (.ireturn, 1) := by decide +kernel
theorem dX5_define_0 : decode cX5_define 0 = .ok (.aload_n 0, 1) := by decide +kernel
theorem dX5_define_1 : decode cX5_define 1 = .ok (.iload_n 2, 1) := by decide +kernel
theorem dX5_define_2 : decode cX5_define 2 = .ok (.invokevirtual 67, 3) := by decide +kernel
theorem dX5_define_5 : decode cX5_define 5 = .ok (.astore_n 3, 1) := by decide +kernel
theorem dX5_define_6 : decode cX5_define 6 = .ok (.aload_n 0, 1) := by decide +kernel
theorem dX5_define_7 : decode cX5_define 7 = .ok (.iload_n 1, 1) := by decide +kernel
theorem dX5_define_8 : decode cX5_define 8 = .ok (.invokevirtual 71, 3) := by decide +kernel
theorem dX5_define_11 : decode cX5_define 11 = .ok (.ifCond .eq 20, 3) := by decide +kernel
theorem dX5_define_14 : decode cX5_define 14 = .ok (.aload_n 3, 1) := by decide +kernel
theorem dX5_define_15 : decode cX5_define 15 = .ok (.ifnull 16, 3) := by decide +kernel
theorem dX5_define_18 : decode cX5_define 18 = .ok (.aload_n 3, 1) := by decide +kernel
theorem dX5_define_19 : decode cX5_define 19 = .ok (.getfield 75, 3) := by decide +kernel
theorem dX5_define_22 : decode cX5_define 22 = .ok (.aload_n 0, 1) := by decide +kernel
theorem dX5_define_23 : decode cX5_define 23 = .ok (.getfield 15, 3) := by decide +kernel
theorem dX5_define_26 : decode cX5_define 26 = .ok (.iload_n 1, 1) := by decide +kernel
theorem dX5_define_27 : decode cX5_define 27 = .ok (.iaload, 1) := by decide +kernel
theorem dX5_define_28 : decode cX5_define 28 = .ok (.if_icmp .le 13, 3) := by decide +kernel
theorem dX5_define_31 : decode cX5_define 31 = .ok (.new 51, 3) := by decide +kernel
theorem dX5_define_34 : decode cX5_define 34 = .ok (.dup, 1) := by decide +kernel
theorem dX5_define_35 : decode cX5_define 35 = .ok (.ldc 78, 2) := by decide +kernel
theorem dX5_define_37 : decode cX5_define 37 = .ok (.invokespecial 55, 3) := by decide +kernel
theorem dX5_define_40 : decode cX5_define 40 = .ok (.athrow, 1) := by decide +kernel
theorem dX5_define_41 : decode cX5_define 41 = .ok (.aload_n 0, 1) := by decide +kernel
theorem dX5_define_42 : decode cX5_define 42 = .ok (.getfield 19, 3) := by decide +kernel
theorem dX5_define_45 : decode cX5_define 45 = .ok (.iload_n 1, 1) := by decide +kernel
theorem dX5_define_46 : decode cX5_define 46 = .ok (.aaload, 1) := by decide +kernel
theorem dX5_define_47 : decode cX5_define 47 = .ok (.ifnull 7, 3) := by decide +kernel
theorem dX5_define_50 : decode cX5_define 50 = .ok (.iconst 1, 1) := by decide +kernel
theorem dX5_define_51 : decode cX5_define 51 = .ok (.goto 4, 3) := by decide +kernel
theorem dX5_define_54 : decode cX5_define 54 = .ok (.iconst 0, 1) := by decide +kernel
theorem dX5_define_55 : decode cX5_define 55 = .ok (.istore 4, 2) := by decide +kernel
theorem dX5_define_57 : decode cX5_define 57 = .ok (.aload_n 0, 1) := by decide +kernel
theorem dX5_define_58 : decode cX5_define 58 = .ok (.getfield 19, 3) := by decide +kernel
theorem dX5_define_61 : decode cX5_define 61 = .ok (.iload_n 1, 1) := by decide +kernel
theorem dX5_define_62 : decode cX5_define 62 = .ok (.aload_n 3, 1) := by decide +kernel
theorem dX5_define_63 : decode cX5_define 63 = .ok (.aastore, 1) := by decide +kernel
theorem dX5_define_64 : decode cX5_define 64 = .ok (.iload 4, 2) := by decide +kernel
theorem dX5_define_66 : decode cX5_define 66 = .ok (.ireturn, 1) := by decide +kernel
theorem dX5_atom_0 : decode cX5_atom 0 = .ok (.iload_n 1, 1) := by decide +kernel
theorem dX5_atom_1 : decode cX5_atom 1 = .ok (.iconst (-1), 1) := by decide +kernel
theorem dX5_atom_2 : decode cX5_atom 2 = .ok (.if_icmp .eq 21, 3) := by decide +kernel
theorem dX5_atom_5 : decode cX5_atom 5 = .ok (.aload_n 0, 1) := by decide +kernel
theorem dX5_atom_6 : decode cX5_atom 6 = .ok (.iload_n 1, 1) := by decide +kernel
theorem dX5_atom_7 : decode cX5_atom 7 = .ok (.invokevirtual 71, 3) := by decide +kernel
theorem dX5_atom_10 : decode cX5_atom 10 = .ok (.ifCond .ne 13, 3) := by decide +kernel
theorem dX5_atom_13 : decode cX5_atom 13 = .ok (.new 51, 3) := by decide +kernel
theorem dX5_atom_16 : decode cX5_atom 16 = .ok (.dup, 1) := by decide +kernel
theorem dX5_atom_17 : decode cX5_atom 17 = .ok (.ldc 99, 2) := by decide +kernel
theorem dX5_atom_19 : decode cX5_atom 19 = .ok (.invokespecial 55, 3) := by decide +kernel
theorem dX5_atom_22 : decode cX5_atom 22 = .ok (.athrow, 1) := by decide +kernel
theorem dX5_atom_23 : decode cX5_atom 23 = .ok (.iload_n 1, 1) := by decide +kernel
theorem dX5_atom_24 : decode cX5_atom 24 = .ok (.iconst (-1), 1) := by decide +kernel
theorem dX5_atom_25 : decode cX5_atom 25 = .ok (.if_icmp .ne 7, 3) := by decide +kernel
theorem dX5_atom_28 : decode cX5_atom 28 = .ok (.iconst 2, 1) := by decide +kernel
theorem dX5_atom_29 : decode cX5_atom 29 = .ok (.goto 9, 3) := by decide +kernel
theorem dX5_atom_32 : decode cX5_atom 32 = .ok (.aload_n 0, 1) := by decide +kernel
theorem dX5_atom_33 : decode cX5_atom 33 = .ok (.getfield 15, 3) := by decide +kernel
theorem dX5_atom_36 : decode cX5_atom 36 = .ok (.iload_n 1, 1) := by decide +kernel
theorem dX5_atom_37 : decode cX5_atom 37 = .ok (.iaload, 1) := by decide +kernel
theorem dX5_atom_38 : decode cX5_atom 38 = .ok (.istore 4, 2) := by decide +kernel
theorem dX5_atom_40 : decode cX5_atom 40 = .ok (.aload_n 0, 1) := by decide +kernel
theorem dX5_atom_41 : decode cX5_atom 41 = .ok (.iload_n 2, 1) := by decide +kernel
theorem dX5_atom_42 : decode cX5_atom 42 = .ok (.iload 4, 2) := by decide +kernel
theorem dX5_atom_44 : decode cX5_atom 44 = .ok (.ifCond .le 7, 3) := by decide +kernel
theorem dX5_atom_47 : decode cX5_atom 47 = .ok (.iconst 1, 1) := by decide +kernel
theorem dX5_atom_48 : decode cX5_atom 48 = .ok (.goto 4, 3) := by decide +kernel
theorem dX5_atom_51 : decode cX5_atom 51 = .ok (.iconst 0, 1) := by decide +kernel
theorem dX5_atom_52 : decode cX5_atom 52 = .ok (.invokevirtual 101, 3) := by decide +kernel
theorem dX5_atom_55 : decode cX5_atom 55 = .ok (.ifCond .eq 22, 3) := by decide +kernel
theorem dX5_atom_58 : decode cX5_atom 58 = .ok (.aload_n 0, 1) := by decide +kernel
theorem dX5_atom_59 : decode cX5_atom 59 = .ok (.iload_n 3, 1) := by decide +kernel
theorem dX5_atom_60 : decode cX5_atom 60 = .ok (.iload 4, 2) := by decide +kernel
theorem dX5_atom_62 : decode cX5_atom 62 = .ok (.iconst 1, 1) := by decide +kernel
theorem dX5_atom_63 : decode cX5_atom 63 = .ok (.if_icmp .le 7, 3) := by decide +kernel
theorem dX5_atom_66 : decode cX5_atom 66 = .ok (.iconst 1, 1) := by decide +kernel
theorem dX5_atom_67 : decode cX5_atom 67 = .ok (.goto 4, 3) := by decide +kernel
theorem dX5_atom_70 : decode cX5_atom 70 = .ok (.iconst 0, 1) := by decide +kernel
theorem dX5_atom_71 : decode cX5_atom 71 = .ok (.invokevirtual 101, 3) := by decide +kernel
theorem dX5_atom_74 : decode cX5_atom 74 = .ok (.ifCond .ne 13, 3) := by decide +kernel
theorem dX5_atom_77 : decode cX5_atom 77 = .ok (.new 51, 3) := by decide +kernel
theorem dX5_atom_80 : decode cX5_atom 80 = .ok (.dup, 1) := by decide +kernel
theorem dX5_atom_81 : decode cX5_atom 81 = .ok (.ldc 105, 2) := by decide +kernel
theorem dX5_atom_83 : decode cX5_atom 83 = .ok (.invokespecial 55, 3) := by decide +kernel
theorem dX5_atom_86 : decode cX5_atom 86 = .ok (.athrow, 1) := by decide +kernel
theorem dX5_atom_87 : decode cX5_atom 87 = .ok (.aload_n 0, 1) := by decide +kernel
theorem dX5_atom_88 : decode cX5_atom 88 = .ok (.getfield 32, 3) := by decide +kernel
theorem dX5_atom_91 : decode cX5_atom 91 = .ok (.iload_n 1, 1) := by decide +kernel
theorem dX5_atom_92 : decode cX5_atom 92 = .ok (.iconst (-1), 1) := by decide +kernel
theorem dX5_atom_93 : decode cX5_atom 93 = .ok (.if_icmp .ne 7, 3) := by decide +kernel
theorem dX5_atom_96 : decode cX5_atom 96 = .ok (.iconst 4, 1) := by decide +kernel
theorem dX5_atom_97 : decode cX5_atom 97 = .ok (.goto 9, 3) := by decide +kernel
theorem dX5_atom_100 : decode cX5_atom 100 = .ok (.iload_n 1, 1) := by decide +kernel
theorem dX5_atom_101 : decode cX5_atom 101 = .ok (.iload 4, 2) := by decide +kernel
theorem dX5_atom_103 : decode cX5_atom 103 = .ok (.invokestatic 107, 3) := by decide +kernel
theorem dX5_atom_106 : decode cX5_atom 106 = .ok (.invokevirtual 92, 3) := by decide +kernel
theorem dX5_atom_109 : decode cX5_atom 109 = .ok (.aload_n 0, 1) := by decide +kernel
theorem dX5_atom_110 : decode cX5_atom 110 = .ok (.iload_n 2, 1) := by decide +kernel
theorem dX5_atom_111 : decode cX5_atom 111 = .ok (.invokevirtual 110, 3) := by decide +kernel
theorem dX5_atom_114 : decode cX5_atom 114 = .ok (.aload_n 0, 1) := by decide +kernel
theorem dX5_atom_115 : decode cX5_atom 115 = .ok (.iload_n 3, 1) := by decide +kernel
theorem dX5_atom_116 : decode cX5_atom 116 = .ok (.invokevirtual 110, 3) := by decide +kernel
theorem dX5_atom_119 : decode cX5_atom 119 = .ok (.aload_n 0, 1) := by decide +kernel
theorem dX5_atom_120 : decode cX5_atom 120 = .ok (.invokevirtual 96, 3) := by decide +kernel
theorem dX5_atom_123 : decode cX5_atom 123 = .ok (.ireturn, 1) := by decide +kernel
theorem dX5_bind_0 : decode cX5_bind 0 = .ok (.aload_n 0, 1) := by decide +kernel
theorem dX5_bind_1 : decode cX5_bind 1 = .ok (.iload_n 2, 1) := by decide +kernel
theorem dX5_bind_2 : decode cX5_bind 2 = .ok (.invokevirtual 124, 3) := by decide +kernel
theorem dX5_bind_5 : decode cX5_bind 5 = .ok (.istore 4, 2) := by decide +kernel
theorem dX5_bind_7 : decode cX5_bind 7 = .ok (.aload_n 0, 1) := by decide +kernel
theorem dX5_bind_8 : decode cX5_bind 8 = .ok (.iload_n 3, 1) := by decide +kernel
theorem dX5_bind_9 : decode cX5_bind 9 = .ok (.invokevirtual 67, 3) := by decide +kernel
theorem dX5_bind_12 : decode cX5_bind 12 = .ok (.astore 5, 2) := by decide +kernel
theorem dX5_bind_14 : decode cX5_bind 14 = .ok (.iload 4, 2) := by decide +kernel
theorem dX5_bind_16 : decode cX5_bind 16 = .ok (.iconst (-1), 1) := by decide +kernel
theorem dX5_bind_17 : decode cX5_bind 17 = .ok (.if_icmp .eq 8, 3) := by decide +kernel
theorem dX5_bind_20 : decode cX5_bind 20 = .ok (.aload 5, 2) := by decide +kernel
theorem dX5_bind_22 : decode cX5_bind 22 = .ok (.ifnonnull 13, 3) := by decide +kernel
theorem dX5_bind_25 : decode cX5_bind 25 = .ok (.new 51, 3) := by decide +kernel
theorem dX5_bind_28 : decode cX5_bind 28 = .ok (.dup, 1) := by decide +kernel
theorem dX5_bind_29 : decode cX5_bind 29 = .ok (.ldc 128, 2) := by decide +kernel
theorem dX5_bind_31 : decode cX5_bind 31 = .ok (.invokespecial 55, 3) := by decide +kernel
theorem dX5_bind_34 : decode cX5_bind 34 = .ok (.athrow, 1) := by decide +kernel
theorem dX5_bind_35 : decode cX5_bind 35 = .ok (.aload_n 0, 1) := by decide +kernel
theorem dX5_bind_36 : decode cX5_bind 36 = .ok (.getfield 32, 3) := by decide +kernel
theorem dX5_bind_39 : decode cX5_bind 39 = .ok (.aload 5, 2) := by decide +kernel
theorem dX5_bind_41 : decode cX5_bind 41 = .ok (.invokevirtual 130, 3) := by decide +kernel
theorem dX5_bind_44 : decode cX5_bind 44 = .ok (.iload_n 1, 1) := by decide +kernel
theorem dX5_bind_45 : decode cX5_bind 45 = .ok (.ifCond .eq 15, 3) := by decide +kernel
theorem dX5_bind_48 : decode cX5_bind 48 = .ok (.aload_n 0, 1) := by decide +kernel
theorem dX5_bind_49 : decode cX5_bind 49 = .ok (.getfield 32, 3) := by decide +kernel
theorem dX5_bind_52 : decode cX5_bind 52 = .ok (.iload 4, 2) := by decide +kernel
theorem dX5_bind_54 : decode cX5_bind 54 = .ok (.invokevirtual 134, 3) := by decide +kernel
theorem dX5_bind_57 : decode cX5_bind 57 = .ok (.goto 12, 3) := by decide +kernel
theorem dX5_bind_60 : decode cX5_bind 60 = .ok (.aload_n 0, 1) := by decide +kernel
theorem dX5_bind_61 : decode cX5_bind 61 = .ok (.getfield 32, 3) := by decide +kernel
theorem dX5_bind_64 : decode cX5_bind 64 = .ok (.iload 4, 2) := by decide +kernel
theorem dX5_bind_66 : decode cX5_bind 66 = .ok (.invokevirtual 137, 3) := by decide +kernel
theorem dX5_bind_69 : decode cX5_bind 69 = .ok (.aload_n 0, 1) := by decide +kernel
theorem dX5_bind_70 : decode cX5_bind 70 = .ok (.invokevirtual 96, 3) := by decide +kernel
theorem dX5_bind_73 : decode cX5_bind 73 = .ok (.ireturn, 1) := by decide +kernel
theorem dX5_proof_0 : decode cX5_proof 0 = .ok (.aload_n 0, 1) := by decide +kernel
theorem dX5_proof_1 : decode cX5_proof 1 = .ok (.iload_n 1, 1) := by decide +kernel
theorem dX5_proof_2 : decode cX5_proof 2 = .ok (.invokevirtual 140, 3) := by decide +kernel
theorem dX5_proof_5 : decode cX5_proof 5 = .ok (.astore_n 2, 1) := by decide +kernel
theorem dX5_proof_6 : decode cX5_proof 6 = .ok (.aload_n 2, 1) := by decide +kernel
theorem dX5_proof_7 : decode cX5_proof 7 = .ok (.ifnonnull 13, 3) := by decide +kernel
theorem dX5_proof_10 : decode cX5_proof 10 = .ok (.new 51, 3) := by decide +kernel
theorem dX5_proof_13 : decode cX5_proof 13 = .ok (.dup, 1) := by decide +kernel
theorem dX5_proof_14 : decode cX5_proof 14 = .ok (.ldc 143, 2) := by decide +kernel
theorem dX5_proof_16 : decode cX5_proof 16 = .ok (.invokespecial 55, 3) := by decide +kernel
theorem dX5_proof_19 : decode cX5_proof 19 = .ok (.athrow, 1) := by decide +kernel
theorem dX5_proof_20 : decode cX5_proof 20 = .ok (.aload_n 0, 1) := by decide +kernel
theorem dX5_proof_21 : decode cX5_proof 21 = .ok (.invokevirtual 145, 3) := by decide +kernel
theorem dX5_proof_24 : decode cX5_proof 24 = .ok (.aload_n 0, 1) := by decide +kernel
theorem dX5_proof_25 : decode cX5_proof 25 = .ok (.iconst 0, 1) := by decide +kernel
theorem dX5_proof_26 : decode cX5_proof 26 = .ok (.aload_n 2, 1) := by decide +kernel
theorem dX5_proof_27 : decode cX5_proof 27 = .ok (.invokevirtual 148, 3) := by decide +kernel
theorem dX5_proof_30 : decode cX5_proof 30 = .ok (.ireturn, 1) := by decide +kernel
theorem dX5_assume_0 : decode cX5_assume 0 = .ok (.aload_n 0, 1) := by decide +kernel
theorem dX5_assume_1 : decode cX5_assume 1 = .ok (.iload_n 1, 1) := by decide +kernel
theorem dX5_assume_2 : decode cX5_assume 2 = .ok (.invokevirtual 140, 3) := by decide +kernel
theorem dX5_assume_5 : decode cX5_assume 5 = .ok (.astore_n 2, 1) := by decide +kernel
theorem dX5_assume_6 : decode cX5_assume 6 = .ok (.aload_n 2, 1) := by decide +kernel
theorem dX5_assume_7 : decode cX5_assume 7 = .ok (.ifnonnull 13, 3) := by decide +kernel
theorem dX5_assume_10 : decode cX5_assume 10 = .ok (.new 51, 3) := by decide +kernel
theorem dX5_assume_13 : decode cX5_assume 13 = .ok (.dup, 1) := by decide +kernel
theorem dX5_assume_14 : decode cX5_assume 14 = .ok (.ldc 143, 2) := by decide +kernel
theorem dX5_assume_16 : decode cX5_assume 16 = .ok (.invokespecial 55, 3) := by decide +kernel
theorem dX5_assume_19 : decode cX5_assume 19 = .ok (.athrow, 1) := by decide +kernel
theorem dX5_assume_20 : decode cX5_assume 20 = .ok (.aload_n 0, 1) := by decide +kernel
theorem dX5_assume_21 : decode cX5_assume 21 = .ok (.aload_n 0, 1) := by decide +kernel
theorem dX5_assume_22 : decode cX5_assume 22 = .ok (.invokevirtual 152, 3) := by decide +kernel
theorem dX5_assume_25 : decode cX5_assume 25 = .ok (.iconst 1, 1) := by decide +kernel
theorem dX5_assume_26 : decode cX5_assume 26 = .ok (.iconst (-1), 1) := by decide +kernel
theorem dX5_assume_27 : decode cX5_assume 27 = .ok (.aload_n 2, 1) := by decide +kernel
theorem dX5_assume_28 : decode cX5_assume 28 = .ok (.invokevirtual 156, 3) := by decide +kernel
theorem dX5_assume_31 : decode cX5_assume 31 = .ok (.ireturn, 1) := by decide +kernel
theorem dX5_thus_0 : decode cX5_thus 0 = .ok (.aload_n 0, 1) := by decide +kernel
theorem dX5_thus_1 : decode cX5_thus 1 = .ok (.iload_n 1, 1) := by decide +kernel
theorem dX5_thus_2 : decode cX5_thus 2 = .ok (.invokevirtual 140, 3) := by decide +kernel
theorem dX5_thus_5 : decode cX5_thus 5 = .ok (.astore_n 2, 1) := by decide +kernel
theorem dX5_thus_6 : decode cX5_thus 6 = .ok (.aload_n 2, 1) := by decide +kernel
theorem dX5_thus_7 : decode cX5_thus 7 = .ok (.ifnonnull 13, 3) := by decide +kernel
theorem dX5_thus_10 : decode cX5_thus 10 = .ok (.new 51, 3) := by decide +kernel
theorem dX5_thus_13 : decode cX5_thus 13 = .ok (.dup, 1) := by decide +kernel
theorem dX5_thus_14 : decode cX5_thus 14 = .ok (.ldc 143, 2) := by decide +kernel
theorem dX5_thus_16 : decode cX5_thus 16 = .ok (.invokespecial 55, 3) := by decide +kernel
theorem dX5_thus_19 : decode cX5_thus 19 = .ok (.athrow, 1) := by decide +kernel
theorem dX5_thus_20 : decode cX5_thus 20 = .ok (.aload_n 0, 1) := by decide +kernel
theorem dX5_thus_21 : decode cX5_thus 21 = .ok (.aload_n 0, 1) := by decide +kernel
theorem dX5_thus_22 : decode cX5_thus 22 = .ok (.invokevirtual 152, 3) := by decide +kernel
theorem dX5_thus_25 : decode cX5_thus 25 = .ok (.iconst 2, 1) := by decide +kernel
theorem dX5_thus_26 : decode cX5_thus 26 = .ok (.iconst (-1), 1) := by decide +kernel
theorem dX5_thus_27 : decode cX5_thus 27 = .ok (.aload_n 2, 1) := by decide +kernel
theorem dX5_thus_28 : decode cX5_thus 28 = .ok (.invokevirtual 156, 3) := by decide +kernel
theorem dX5_thus_31 : decode cX5_thus 31 = .ok (.ireturn, 1) := by decide +kernel
theorem dX5_take_0 : decode cX5_take 0 = .ok (.aload_n 0, 1) := by decide +kernel
theorem dX5_take_1 : decode cX5_take 1 = .ok (.iload_n 1, 1) := by decide +kernel
theorem dX5_take_2 : decode cX5_take 2 = .ok (.invokevirtual 124, 3) := by decide +kernel
theorem dX5_take_5 : decode cX5_take 5 = .ok (.istore_n 2, 1) := by decide +kernel
theorem dX5_take_6 : decode cX5_take 6 = .ok (.iload_n 2, 1) := by decide +kernel
theorem dX5_take_7 : decode cX5_take 7 = .ok (.iconst (-1), 1) := by decide +kernel
theorem dX5_take_8 : decode cX5_take 8 = .ok (.if_icmp .ne 13, 3) := by decide +kernel
theorem dX5_take_11 : decode cX5_take 11 = .ok (.new 51, 3) := by decide +kernel
theorem dX5_take_14 : decode cX5_take 14 = .ok (.dup, 1) := by decide +kernel
theorem dX5_take_15 : decode cX5_take 15 = .ok (.ldc 160, 2) := by decide +kernel
theorem dX5_take_17 : decode cX5_take 17 = .ok (.invokespecial 55, 3) := by decide +kernel
theorem dX5_take_20 : decode cX5_take 20 = .ok (.athrow, 1) := by decide +kernel
theorem dX5_take_21 : decode cX5_take 21 = .ok (.aload_n 0, 1) := by decide +kernel
theorem dX5_take_22 : decode cX5_take 22 = .ok (.invokevirtual 152, 3) := by decide +kernel
theorem dX5_take_25 : decode cX5_take 25 = .ok (.astore_n 3, 1) := by decide +kernel
theorem dX5_take_26 : decode cX5_take 26 = .ok (.aload_n 3, 1) := by decide +kernel
theorem dX5_take_27 : decode cX5_take 27 = .ok (.getfield 162, 3) := by decide +kernel
theorem dX5_take_30 : decode cX5_take 30 = .ok (.iconst 1, 1) := by decide +kernel
theorem dX5_take_31 : decode cX5_take 31 = .ok (.if_icmp .ne 13, 3) := by decide +kernel
theorem dX5_take_34 : decode cX5_take 34 = .ok (.new 62, 3) := by decide +kernel
theorem dX5_take_37 : decode cX5_take 37 = .ok (.dup, 1) := by decide +kernel
theorem dX5_take_38 : decode cX5_take 38 = .ok (.ldc 165, 2) := by decide +kernel
theorem dX5_take_40 : decode cX5_take 40 = .ok (.invokespecial 66, 3) := by decide +kernel
theorem dX5_take_43 : decode cX5_take 43 = .ok (.athrow, 1) := by decide +kernel
theorem dX5_take_44 : decode cX5_take 44 = .ok (.aload_n 0, 1) := by decide +kernel
theorem dX5_take_45 : decode cX5_take 45 = .ok (.aload_n 3, 1) := by decide +kernel
theorem dX5_take_46 : decode cX5_take 46 = .ok (.iconst 3, 1) := by decide +kernel
theorem dX5_take_47 : decode cX5_take 47 = .ok (.iload_n 2, 1) := by decide +kernel
theorem dX5_take_48 : decode cX5_take 48 = .ok (.aconst_null, 1) := by decide +kernel
theorem dX5_take_49 : decode cX5_take 49 = .ok (.invokevirtual 156, 3) := by decide +kernel
theorem dX5_take_52 : decode cX5_take 52 = .ok (.ireturn, 1) := by decide +kernel
theorem dX5_given_0 : decode cX5_given 0 = .ok (.aload_n 0, 1) := by decide +kernel
theorem dX5_given_1 : decode cX5_given 1 = .ok (.iload_n 1, 1) := by decide +kernel
theorem dX5_given_2 : decode cX5_given 2 = .ok (.invokevirtual 124, 3) := by decide +kernel
theorem dX5_given_5 : decode cX5_given 5 = .ok (.istore_n 3, 1) := by decide +kernel
theorem dX5_given_6 : decode cX5_given 6 = .ok (.aload_n 0, 1) := by decide +kernel
theorem dX5_given_7 : decode cX5_given 7 = .ok (.iload_n 2, 1) := by decide +kernel
theorem dX5_given_8 : decode cX5_given 8 = .ok (.invokevirtual 140, 3) := by decide +kernel
theorem dX5_given_11 : decode cX5_given 11 = .ok (.astore 4, 2) := by decide +kernel
theorem dX5_given_13 : decode cX5_given 13 = .ok (.iload_n 3, 1) := by decide +kernel
theorem dX5_given_14 : decode cX5_given 14 = .ok (.iconst (-1), 1) := by decide +kernel
theorem dX5_given_15 : decode cX5_given 15 = .ok (.if_icmp .eq 8, 3) := by decide +kernel
theorem dX5_given_18 : decode cX5_given 18 = .ok (.aload 4, 2) := by decide +kernel
theorem dX5_given_20 : decode cX5_given 20 = .ok (.ifnonnull 13, 3) := by decide +kernel
theorem dX5_given_23 : decode cX5_given 23 = .ok (.new 51, 3) := by decide +kernel
theorem dX5_given_26 : decode cX5_given 26 = .ok (.dup, 1) := by decide +kernel
theorem dX5_given_27 : decode cX5_given 27 = .ok (.ldc 167, 2) := by decide +kernel
theorem dX5_given_29 : decode cX5_given 29 = .ok (.invokespecial 55, 3) := by decide +kernel
theorem dX5_given_32 : decode cX5_given 32 = .ok (.athrow, 1) := by decide +kernel
theorem dX5_given_33 : decode cX5_given 33 = .ok (.aload_n 0, 1) := by decide +kernel
theorem dX5_given_34 : decode cX5_given 34 = .ok (.aload_n 0, 1) := by decide +kernel
theorem dX5_given_35 : decode cX5_given 35 = .ok (.invokevirtual 152, 3) := by decide +kernel
theorem dX5_given_38 : decode cX5_given 38 = .ok (.iconst 4, 1) := by decide +kernel
theorem dX5_given_39 : decode cX5_given 39 = .ok (.iload_n 3, 1) := by decide +kernel
theorem dX5_given_40 : decode cX5_given 40 = .ok (.aload 4, 2) := by decide +kernel
theorem dX5_given_42 : decode cX5_given 42 = .ok (.invokevirtual 156, 3) := by decide +kernel
theorem dX5_given_45 : decode cX5_given 45 = .ok (.ireturn, 1) := by decide +kernel
theorem dX5_suppose_0 : decode cX5_suppose 0 = .ok (.aload_n 0, 1) := by decide +kernel
theorem dX5_suppose_1 : decode cX5_suppose 1 = .ok (.iload_n 1, 1) := by decide +kernel
theorem dX5_suppose_2 : decode cX5_suppose 2 = .ok (.invokevirtual 140, 3) := by decide +kernel
theorem dX5_suppose_5 : decode cX5_suppose 5 = .ok (.astore_n 2, 1) := by decide +kernel
theorem dX5_suppose_6 : decode cX5_suppose 6 = .ok (.aload_n 2, 1) := by decide +kernel
theorem dX5_suppose_7 : decode cX5_suppose 7 = .ok (.ifnonnull 13, 3) := by decide +kernel
theorem dX5_suppose_10 : decode cX5_suppose 10 = .ok (.new 51, 3) := by decide +kernel
theorem dX5_suppose_13 : decode cX5_suppose 13 = .ok (.dup, 1) := by decide +kernel
theorem dX5_suppose_14 : decode cX5_suppose 14 = .ok (.ldc 143, 2) := by decide +kernel
theorem dX5_suppose_16 : decode cX5_suppose 16 = .ok (.invokespecial 55, 3) := by decide +kernel
theorem dX5_suppose_19 : decode cX5_suppose 19 = .ok (.athrow, 1) := by decide +kernel
theorem dX5_suppose_20 : decode cX5_suppose 20 = .ok (.aload_n 0, 1) := by decide +kernel
theorem dX5_suppose_21 : decode cX5_suppose 21 = .ok (.invokevirtual 177, 3) := by decide +kernel
theorem dX5_suppose_24 : decode cX5_suppose 24 = .ok (.astore_n 3, 1) := by decide +kernel
theorem dX5_suppose_25 : decode cX5_suppose 25 = .ok (.aload_n 0, 1) := by decide +kernel
theorem dX5_suppose_26 : decode cX5_suppose 26 = .ok (.invokevirtual 180, 3) := by decide +kernel
theorem dX5_suppose_29 : decode cX5_suppose 29 = .ok (.aload_n 0, 1) := by decide +kernel
theorem dX5_suppose_30 : decode cX5_suppose 30 = .ok (.iconst 2, 1) := by decide +kernel
theorem dX5_suppose_31 : decode cX5_suppose 31 = .ok (.aload_n 3, 1) := by decide +kernel
theorem dX5_suppose_32 : decode cX5_suppose 32 = .ok (.getfield 183, 3) := by decide +kernel
theorem dX5_suppose_35 : decode cX5_suppose 35 = .ok (.invokevirtual 148, 3) := by decide +kernel
theorem dX5_suppose_38 : decode cX5_suppose 38 = .ok (.istore 4, 2) := by decide +kernel
theorem dX5_suppose_40 : decode cX5_suppose 40 = .ok (.aload_n 0, 1) := by decide +kernel
theorem dX5_suppose_41 : decode cX5_suppose 41 = .ok (.aload_n 3, 1) := by decide +kernel
theorem dX5_suppose_42 : decode cX5_suppose 42 = .ok (.iconst 5, 1) := by decide +kernel
theorem dX5_suppose_43 : decode cX5_suppose 43 = .ok (.iconst (-1), 1) := by decide +kernel
theorem dX5_suppose_44 : decode cX5_suppose 44 = .ok (.aload_n 2, 1) := by decide +kernel
theorem dX5_suppose_45 : decode cX5_suppose 45 = .ok (.invokevirtual 186, 3) := by decide +kernel
theorem dX5_suppose_48 : decode cX5_suppose 48 = .ok (.iload 4, 2) := by decide +kernel
theorem dX5_suppose_50 : decode cX5_suppose 50 = .ok (.ireturn, 1) := by decide +kernel
theorem dX5_cases_0 : decode cX5_cases 0 = .ok (.aload_n 0, 1) := by decide +kernel
theorem dX5_cases_1 : decode cX5_cases 1 = .ok (.invokevirtual 169, 3) := by decide +kernel
theorem dX5_cases_4 : decode cX5_cases 4 = .ok (.astore_n 1, 1) := by decide +kernel
theorem dX5_cases_5 : decode cX5_cases 5 = .ok (.aload_n 1, 1) := by decide +kernel
theorem dX5_cases_6 : decode cX5_cases 6 = .ok (.ifnull 18, 3) := by decide +kernel
theorem dX5_cases_9 : decode cX5_cases 9 = .ok (.aload_n 1, 1) := by decide +kernel
theorem dX5_cases_10 : decode cX5_cases 10 = .ok (.getfield 162, 3) := by decide +kernel
theorem dX5_cases_13 : decode cX5_cases 13 = .ok (.iconst 1, 1) := by decide +kernel
theorem dX5_cases_14 : decode cX5_cases 14 = .ok (.if_icmp .eq 10, 3) := by decide +kernel
theorem dX5_cases_17 : decode cX5_cases 17 = .ok (.aload_n 1, 1) := by decide +kernel
theorem dX5_cases_18 : decode cX5_cases 18 = .ok (.getfield 172, 3) := by decide +kernel
theorem dX5_cases_21 : decode cX5_cases 21 = .ok (.ifCond .eq 13, 3) := by decide +kernel
theorem dX5_cases_24 : decode cX5_cases 24 = .ok (.new 62, 3) := by decide +kernel
theorem dX5_cases_27 : decode cX5_cases 27 = .ok (.dup, 1) := by decide +kernel
theorem dX5_cases_28 : decode cX5_cases 28 = .ok (.ldc 175, 2) := by decide +kernel
theorem dX5_cases_30 : decode cX5_cases 30 = .ok (.invokespecial 66, 3) := by decide +kernel
theorem dX5_cases_33 : decode cX5_cases 33 = .ok (.athrow, 1) := by decide +kernel
theorem dX5_cases_34 : decode cX5_cases 34 = .ok (.aload_n 1, 1) := by decide +kernel
theorem dX5_cases_35 : decode cX5_cases 35 = .ok (.iconst 1, 1) := by decide +kernel
theorem dX5_cases_36 : decode cX5_cases 36 = .ok (.putfield 172, 3) := by decide +kernel
theorem dX5_cases_39 : decode cX5_cases 39 = .ok (.return_, 1) := by decide +kernel
theorem dX5_end_0 : decode cX5_end 0 = .ok (.aload_n 0, 1) := by decide +kernel
theorem dX5_end_1 : decode cX5_end 1 = .ok (.invokevirtual 169, 3) := by decide +kernel
theorem dX5_end_4 : decode cX5_end 4 = .ok (.astore_n 1, 1) := by decide +kernel
theorem dX5_end_5 : decode cX5_end 5 = .ok (.aload_n 1, 1) := by decide +kernel
theorem dX5_end_6 : decode cX5_end 6 = .ok (.ifnonnull 13, 3) := by decide +kernel
theorem dX5_end_9 : decode cX5_end 9 = .ok (.new 62, 3) := by decide +kernel
theorem dX5_end_12 : decode cX5_end 12 = .ok (.dup, 1) := by decide +kernel
theorem dX5_end_13 : decode cX5_end 13 = .ok (.ldc 190, 2) := by decide +kernel
theorem dX5_end_15 : decode cX5_end 15 = .ok (.invokespecial 66, 3) := by decide +kernel
theorem dX5_end_18 : decode cX5_end 18 = .ok (.athrow, 1) := by decide +kernel
theorem dX5_end_19 : decode cX5_end 19 = .ok (.aload_n 1, 1) := by decide +kernel
theorem dX5_end_20 : decode cX5_end 20 = .ok (.getfield 162, 3) := by decide +kernel
theorem dX5_end_23 : decode cX5_end 23 = .ok (.iconst 1, 1) := by decide +kernel
theorem dX5_end_24 : decode cX5_end 24 = .ok (.if_icmp .ne 9, 3) := by decide +kernel
theorem dX5_end_27 : decode cX5_end 27 = .ok (.aload_n 0, 1) := by decide +kernel
theorem dX5_end_28 : decode cX5_end 28 = .ok (.aload_n 1, 1) := by decide +kernel
theorem dX5_end_29 : decode cX5_end 29 = .ok (.invokevirtual 192, 3) := by decide +kernel
theorem dX5_end_32 : decode cX5_end 32 = .ok (.ireturn, 1) := by decide +kernel
theorem dX5_end_33 : decode cX5_end 33 = .ok (.aload_n 1, 1) := by decide +kernel
theorem dX5_end_34 : decode cX5_end 34 = .ok (.invokevirtual 196, 3) := by decide +kernel
theorem dX5_end_37 : decode cX5_end 37 = .ok (.istore_n 2, 1) := by decide +kernel
theorem dX5_end_38 : decode cX5_end 38 = .ok (.aload_n 0, 1) := by decide +kernel
theorem dX5_end_39 : decode cX5_end 39 = .ok (.dup, 1) := by decide +kernel
theorem dX5_end_40 : decode cX5_end 40 = .ok (.getfield 200, 3) := by decide +kernel
theorem dX5_end_43 : decode cX5_end 43 = .ok (.iconst 1, 1) := by decide +kernel
theorem dX5_end_44 : decode cX5_end 44 = .ok (.isub, 1) := by decide +kernel
theorem dX5_end_45 : decode cX5_end 45 = .ok (.putfield 200, 3) := by decide +kernel
theorem dX5_end_48 : decode cX5_end 48 = .ok (.aload_n 1, 1) := by decide +kernel
theorem dX5_end_49 : decode cX5_end 49 = .ok (.getfield 162, 3) := by decide +kernel
theorem dX5_end_52 : decode cX5_end 52 = .ok (.iconst 2, 1) := by decide +kernel
theorem dX5_end_53 : decode cX5_end 53 = .ok (.if_icmp .ne 8, 3) := by decide +kernel
theorem dX5_end_56 : decode cX5_end 56 = .ok (.aload_n 0, 1) := by decide +kernel
theorem dX5_end_57 : decode cX5_end 57 = .ok (.iload_n 2, 1) := by decide +kernel
theorem dX5_end_58 : decode cX5_end 58 = .ok (.invokevirtual 203, 3) := by decide +kernel
theorem dX5_end_61 : decode cX5_end 61 = .ok (.iload_n 2, 1) := by decide +kernel
theorem dX5_end_62 : decode cX5_end 62 = .ok (.ifCond .eq 7, 3) := by decide +kernel
theorem dX5_end_65 : decode cX5_end 65 = .ok (.iconst 1, 1) := by decide +kernel
theorem dX5_end_66 : decode cX5_end 66 = .ok (.goto 4, 3) := by decide +kernel
theorem dX5_end_69 : decode cX5_end 69 = .ok (.iconst 0, 1) := by decide +kernel
theorem dX5_end_70 : decode cX5_end 70 = .ok (.ireturn, 1) := by decide +kernel
theorem dX5_thesis_0 : decode cX5_thesis 0 = .ok (.aload_n 0, 1) := by decide +kernel
theorem dX5_thesis_1 : decode cX5_thesis 1 = .ok (.invokevirtual 169, 3) := by decide +kernel
theorem dX5_thesis_4 : decode cX5_thesis 4 = .ok (.astore_n 1, 1) := by decide +kernel
theorem dX5_thesis_5 : decode cX5_thesis 5 = .ok (.aload_n 1, 1) := by decide +kernel
theorem dX5_thesis_6 : decode cX5_thesis 6 = .ok (.ifnonnull 13, 3) := by decide +kernel
theorem dX5_thesis_9 : decode cX5_thesis 9 = .ok (.new 62, 3) := by decide +kernel
theorem dX5_thesis_12 : decode cX5_thesis 12 = .ok (.dup, 1) := by decide +kernel
theorem dX5_thesis_13 : decode cX5_thesis 13 = .ok (.ldc 190, 2) := by decide +kernel
theorem dX5_thesis_15 : decode cX5_thesis 15 = .ok (.invokespecial 66, 3) := by decide +kernel
theorem dX5_thesis_18 : decode cX5_thesis 18 = .ok (.athrow, 1) := by decide +kernel
theorem dX5_thesis_19 : decode cX5_thesis 19 = .ok (.aload_n 0, 1) := by decide +kernel
theorem dX5_thesis_20 : decode cX5_thesis 20 = .ok (.getfield 32, 3) := by decide +kernel
theorem dX5_thesis_23 : decode cX5_thesis 23 = .ok (.aload_n 1, 1) := by decide +kernel
theorem dX5_thesis_24 : decode cX5_thesis 24 = .ok (.getfield 183, 3) := by decide +kernel
theorem dX5_thesis_27 : decode cX5_thesis 27 = .ok (.invokevirtual 130, 3) := by decide +kernel
theorem dX5_thesis_30 : decode cX5_thesis 30 = .ok (.aload_n 0, 1) := by decide +kernel
theorem dX5_thesis_31 : decode cX5_thesis 31 = .ok (.invokevirtual 96, 3) := by decide +kernel
theorem dX5_thesis_34 : decode cX5_thesis 34 = .ok (.ireturn, 1) := by decide +kernel
theorem dX5_blockForStep_0 : decode cX5_blockForStep 0 = .ok (.aload_n 0, 1) := by decide +kernel
theorem dX5_blockForStep_1 : decode cX5_blockForStep 1 = .ok (.invokevirtual 169, 3) := by decide +kernel
theorem dX5_blockForStep_4 : decode cX5_blockForStep 4 = .ok (.astore_n 1, 1) := by decide +kernel
theorem dX5_blockForStep_5 : decode cX5_blockForStep 5 = .ok (.aload_n 1, 1) := by decide +kernel
theorem dX5_blockForStep_6 : decode cX5_blockForStep 6 = .ok (.ifnull 10, 3) := by decide +kernel
theorem dX5_blockForStep_9 : decode cX5_blockForStep 9 = .ok (.aload_n 1, 1) := by decide +kernel
theorem dX5_blockForStep_10 : decode cX5_blockForStep 10 = .ok (.getfield 172, 3) := by decide +kernel
theorem dX5_blockForStep_13 : decode cX5_blockForStep 13 = .ok (.ifCond .eq 14, 3) := by decide +kernel
theorem dX5_blockForStep_16 : decode cX5_blockForStep 16 = .ok (.new 62, 3) := by decide +kernel
theorem dX5_blockForStep_19 : decode cX5_blockForStep 19 = .ok (.dup, 1) := by decide +kernel
theorem dX5_blockForStep_20 : decode cX5_blockForStep 20 = .ok (.ldc_w 326, 3) := by decide +kernel
theorem dX5_blockForStep_23 : decode cX5_blockForStep 23 = .ok (.invokespecial 66, 3) := by decide +kernel
theorem dX5_blockForStep_26 : decode cX5_blockForStep 26 = .ok (.athrow, 1) := by decide +kernel
theorem dX5_blockForStep_27 : decode cX5_blockForStep 27 = .ok (.aload_n 0, 1) := by decide +kernel
theorem dX5_blockForStep_28 : decode cX5_blockForStep 28 = .ok (.invokevirtual 180, 3) := by decide +kernel
theorem dX5_blockForStep_31 : decode cX5_blockForStep 31 = .ok (.aload_n 1, 1) := by decide +kernel
theorem dX5_blockForStep_32 : decode cX5_blockForStep 32 = .ok (.areturn, 1) := by decide +kernel
theorem dX5_waitingBlock_0 : decode cX5_waitingBlock 0 = .ok (.aload_n 0, 1) := by decide +kernel
theorem dX5_waitingBlock_1 : decode cX5_waitingBlock 1 = .ok (.invokevirtual 169, 3) := by decide +kernel
theorem dX5_waitingBlock_4 : decode cX5_waitingBlock 4 = .ok (.astore_n 1, 1) := by decide +kernel
theorem dX5_waitingBlock_5 : decode cX5_waitingBlock 5 = .ok (.aload_n 1, 1) := by decide +kernel
theorem dX5_waitingBlock_6 : decode cX5_waitingBlock 6 = .ok (.ifnull 10, 3) := by decide +kernel
theorem dX5_waitingBlock_9 : decode cX5_waitingBlock 9 = .ok (.aload_n 1, 1) := by decide +kernel
theorem dX5_waitingBlock_10 : decode cX5_waitingBlock 10 = .ok (.getfield 172, 3) := by decide +kernel
theorem dX5_waitingBlock_13 : decode cX5_waitingBlock 13 = .ok (.ifCond .ne 14, 3) := by decide +kernel
theorem dX5_waitingBlock_16 : decode cX5_waitingBlock 16 = .ok (.new 62, 3) := by decide +kernel
theorem dX5_waitingBlock_19 : decode cX5_waitingBlock 19 = .ok (.dup, 1) := by decide +kernel
theorem dX5_waitingBlock_20 : decode cX5_waitingBlock 20 = .ok (.ldc_w 299, 3) := by decide +kernel
theorem dX5_waitingBlock_23 : decode cX5_waitingBlock 23 = .ok (.invokespecial 66, 3) := by decide +kernel
theorem dX5_waitingBlock_26 : decode cX5_waitingBlock 26 = .ok (.athrow, 1) := by decide +kernel
theorem dX5_waitingBlock_27 : decode cX5_waitingBlock 27 = .ok (.aload_n 1, 1) := by decide +kernel
theorem dX5_waitingBlock_28 : decode cX5_waitingBlock 28 = .ok (.areturn, 1) := by decide +kernel
theorem dX5_let_0 : decode cX5_let 0 = .ok (.aload_n 0, 1) := by decide +kernel
theorem dX5_let_1 : decode cX5_let 1 = .ok (.invokevirtual 152, 3) := by decide +kernel
theorem dX5_let_4 : decode cX5_let 4 = .ok (.astore_n 1, 1) := by decide +kernel
theorem dX5_let_5 : decode cX5_let 5 = .ok (.aload_n 0, 1) := by decide +kernel
theorem dX5_let_6 : decode cX5_let 6 = .ok (.invokevirtual 80, 3) := by decide +kernel
theorem dX5_let_9 : decode cX5_let 9 = .ok (.istore_n 2, 1) := by decide +kernel
theorem dX5_let_10 : decode cX5_let 10 = .ok (.aload_n 0, 1) := by decide +kernel
theorem dX5_let_11 : decode cX5_let 11 = .ok (.aload_n 1, 1) := by decide +kernel
theorem dX5_let_12 : decode cX5_let 12 = .ok (.iconst 0, 1) := by decide +kernel
theorem dX5_let_13 : decode cX5_let 13 = .ok (.aload_n 0, 1) := by decide +kernel
theorem dX5_let_14 : decode cX5_let 14 = .ok (.iload_n 2, 1) := by decide +kernel
theorem dX5_let_15 : decode cX5_let 15 = .ok (.invokevirtual 124, 3) := by decide +kernel
theorem dX5_let_18 : decode cX5_let 18 = .ok (.aconst_null, 1) := by decide +kernel
theorem dX5_let_19 : decode cX5_let 19 = .ok (.invokevirtual 156, 3) := by decide +kernel
theorem dX5_let_22 : decode cX5_let 22 = .ok (.pop, 1) := by decide +kernel
theorem dX5_let_23 : decode cX5_let 23 = .ok (.iload_n 2, 1) := by decide +kernel
theorem dX5_let_24 : decode cX5_let 24 = .ok (.ireturn, 1) := by decide +kernel
theorem dX5_ways_0 : decode cX5_ways 0 = .ok (.aload_n 0, 1) := by decide +kernel
theorem dX5_ways_1 : decode cX5_ways 1 = .ok (.invokevirtual 177, 3) := by decide +kernel
theorem dX5_ways_4 : decode cX5_ways 4 = .ok (.astore_n 1, 1) := by decide +kernel
theorem dX5_ways_5 : decode cX5_ways 5 = .ok (.aload_n 0, 1) := by decide +kernel
theorem dX5_ways_6 : decode cX5_ways 6 = .ok (.getfield 32, 3) := by decide +kernel
theorem dX5_ways_9 : decode cX5_ways 9 = .ok (.iconst 3, 1) := by decide +kernel
theorem dX5_ways_10 : decode cX5_ways 10 = .ok (.invokevirtual 92, 3) := by decide +kernel
theorem dX5_ways_13 : decode cX5_ways 13 = .ok (.aload_n 1, 1) := by decide +kernel
theorem dX5_ways_14 : decode cX5_ways 14 = .ok (.getfield 207, 3) := by decide +kernel
theorem dX5_ways_17 : decode cX5_ways 17 = .ok (.astore_n 2, 1) := by decide +kernel
theorem dX5_ways_18 : decode cX5_ways 18 = .ok (.aload_n 2, 1) := by decide +kernel
theorem dX5_ways_19 : decode cX5_ways 19 = .ok (.ifnull 40, 3) := by decide +kernel
theorem dX5_ways_22 : decode cX5_ways 22 = .ok (.aload_n 0, 1) := by decide +kernel
theorem dX5_ways_23 : decode cX5_ways 23 = .ok (.getfield 36, 3) := by decide +kernel
theorem dX5_ways_26 : decode cX5_ways 26 = .ok (.aload_n 2, 1) := by decide +kernel
theorem dX5_ways_27 : decode cX5_ways 27 = .ok (.getfield 211, 3) := by decide +kernel
theorem dX5_ways_30 : decode cX5_ways 30 = .ok (.invokevirtual 130, 3) := by decide +kernel
theorem dX5_ways_33 : decode cX5_ways 33 = .ok (.aload_n 0, 1) := by decide +kernel
theorem dX5_ways_34 : decode cX5_ways 34 = .ok (.getfield 36, 3) := by decide +kernel
theorem dX5_ways_37 : decode cX5_ways 37 = .ok (.invokevirtual 216, 3) := by decide +kernel
theorem dX5_ways_40 : decode cX5_ways 40 = .ok (.aload_n 0, 1) := by decide +kernel
theorem dX5_ways_41 : decode cX5_ways 41 = .ok (.getfield 32, 3) := by decide +kernel
theorem dX5_ways_44 : decode cX5_ways 44 = .ok (.aload_n 0, 1) := by decide +kernel
theorem dX5_ways_45 : decode cX5_ways 45 = .ok (.getfield 36, 3) := by decide +kernel
theorem dX5_ways_48 : decode cX5_ways 48 = .ok (.invokevirtual 219, 3) := by decide +kernel
theorem dX5_ways_51 : decode cX5_ways 51 = .ok (.aload_n 2, 1) := by decide +kernel
theorem dX5_ways_52 : decode cX5_ways 52 = .ok (.getfield 223, 3) := by decide +kernel
theorem dX5_ways_55 : decode cX5_ways 55 = .ok (.astore_n 2, 1) := by decide +kernel
theorem dX5_ways_56 : decode cX5_ways 56 = .ok (.goto (-38), 3) := by decide +kernel
theorem dX5_ways_59 : decode cX5_ways 59 = .ok (.aload_n 0, 1) := by decide +kernel
theorem dX5_ways_60 : decode cX5_ways 60 = .ok (.getfield 32, 3) := by decide +kernel
theorem dX5_ways_63 : decode cX5_ways 63 = .ok (.invokevirtual 216, 3) := by decide +kernel
theorem dX5_ways_66 : decode cX5_ways 66 = .ok (.aload_n 0, 1) := by decide +kernel
theorem dX5_ways_67 : decode cX5_ways 67 = .ok (.invokevirtual 96, 3) := by decide +kernel
theorem dX5_ways_70 : decode cX5_ways 70 = .ok (.ireturn, 1) := by decide +kernel
theorem dX5_about_0 : decode cX5_about 0 = .ok (.aload_n 0, 1) := by decide +kernel
theorem dX5_about_1 : decode cX5_about 1 = .ok (.iload_n 1, 1) := by decide +kernel
theorem dX5_about_2 : decode cX5_about 2 = .ok (.invokevirtual 226, 3) := by decide +kernel
theorem dX5_about_5 : decode cX5_about 5 = .ok (.astore_n 3, 1) := by decide +kernel
theorem dX5_about_6 : decode cX5_about 6 = .ok (.aload_n 3, 1) := by decide +kernel
theorem dX5_about_7 : decode cX5_about 7 = .ok (.ifnonnull 13, 3) := by decide +kernel
theorem dX5_about_10 : decode cX5_about 10 = .ok (.new 51, 3) := by decide +kernel
theorem dX5_about_13 : decode cX5_about 13 = .ok (.dup, 1) := by decide +kernel
theorem dX5_about_14 : decode cX5_about 14 = .ok (.ldc 229, 2) := by decide +kernel
theorem dX5_about_16 : decode cX5_about 16 = .ok (.invokespecial 55, 3) := by decide +kernel
theorem dX5_about_19 : decode cX5_about 19 = .ok (.athrow, 1) := by decide +kernel
theorem dX5_about_20 : decode cX5_about 20 = .ok (.iload_n 2, 1) := by decide +kernel
theorem dX5_about_21 : decode cX5_about 21 = .ok (.tableswitch 61 0 3 #[31, 39, 47, 53], 31) := by decide +kernel
theorem dX5_about_52 : decode cX5_about 52 = .ok (.aload_n 3, 1) := by decide +kernel
theorem dX5_about_53 : decode cX5_about 53 = .ok (.invokevirtual 231, 3) := by decide +kernel
theorem dX5_about_56 : decode cX5_about 56 = .ok (.invokestatic 234, 3) := by decide +kernel
theorem dX5_about_59 : decode cX5_about 59 = .ok (.ireturn, 1) := by decide +kernel
theorem dX5_about_60 : decode cX5_about 60 = .ok (.aload_n 3, 1) := by decide +kernel
theorem dX5_about_61 : decode cX5_about 61 = .ok (.invokevirtual 231, 3) := by decide +kernel
theorem dX5_about_64 : decode cX5_about 64 = .ok (.invokestatic 236, 3) := by decide +kernel
theorem dX5_about_67 : decode cX5_about 67 = .ok (.ireturn, 1) := by decide +kernel
theorem dX5_about_68 : decode cX5_about 68 = .ok (.aload_n 3, 1) := by decide +kernel
theorem dX5_about_69 : decode cX5_about 69 = .ok (.getfield 239, 3) := by decide +kernel
theorem dX5_about_72 : decode cX5_about 72 = .ok (.arraylength, 1) := by decide +kernel
theorem dX5_about_73 : decode cX5_about 73 = .ok (.ireturn, 1) := by decide +kernel
theorem dX5_about_74 : decode cX5_about 74 = .ok (.aload_n 3, 1) := by decide +kernel
theorem dX5_about_75 : decode cX5_about 75 = .ok (.invokevirtual 231, 3) := by decide +kernel
theorem dX5_about_78 : decode cX5_about 78 = .ok (.invokestatic 242, 3) := by decide +kernel
theorem dX5_about_81 : decode cX5_about 81 = .ok (.ireturn, 1) := by decide +kernel
theorem dX5_about_82 : decode cX5_about 82 = .ok (.iconst (-1), 1) := by decide +kernel
theorem dX5_about_83 : decode cX5_about 83 = .ok (.ireturn, 1) := by decide +kernel
theorem dX5_part_0 : decode cX5_part 0 = .ok (.aload_n 0, 1) := by decide +kernel
theorem dX5_part_1 : decode cX5_part 1 = .ok (.iload_n 1, 1) := by decide +kernel
theorem dX5_part_2 : decode cX5_part 2 = .ok (.invokevirtual 226, 3) := by decide +kernel
theorem dX5_part_5 : decode cX5_part 5 = .ok (.astore_n 3, 1) := by decide +kernel
theorem dX5_part_6 : decode cX5_part 6 = .ok (.aload_n 3, 1) := by decide +kernel
theorem dX5_part_7 : decode cX5_part 7 = .ok (.ifnull 18, 3) := by decide +kernel
theorem dX5_part_10 : decode cX5_part 10 = .ok (.iload_n 2, 1) := by decide +kernel
theorem dX5_part_11 : decode cX5_part 11 = .ok (.ifCond .lt 14, 3) := by decide +kernel
theorem dX5_part_14 : decode cX5_part 14 = .ok (.iload_n 2, 1) := by decide +kernel
theorem dX5_part_15 : decode cX5_part 15 = .ok (.aload_n 3, 1) := by decide +kernel
theorem dX5_part_16 : decode cX5_part 16 = .ok (.invokevirtual 231, 3) := by decide +kernel
theorem dX5_part_19 : decode cX5_part 19 = .ok (.invokestatic 236, 3) := by decide +kernel
theorem dX5_part_22 : decode cX5_part 22 = .ok (.if_icmp .lt 13, 3) := by decide +kernel
theorem dX5_part_25 : decode cX5_part 25 = .ok (.new 51, 3) := by decide +kernel
theorem dX5_part_28 : decode cX5_part 28 = .ok (.dup, 1) := by decide +kernel
theorem dX5_part_29 : decode cX5_part 29 = .ok (.ldc 245, 2) := by decide +kernel
theorem dX5_part_31 : decode cX5_part 31 = .ok (.invokespecial 55, 3) := by decide +kernel
theorem dX5_part_34 : decode cX5_part 34 = .ok (.athrow, 1) := by decide +kernel
theorem dX5_part_35 : decode cX5_part 35 = .ok (.aload_n 0, 1) := by decide +kernel
theorem dX5_part_36 : decode cX5_part 36 = .ok (.getfield 32, 3) := by decide +kernel
theorem dX5_part_39 : decode cX5_part 39 = .ok (.aload_n 3, 1) := by decide +kernel
theorem dX5_part_40 : decode cX5_part 40 = .ok (.invokevirtual 130, 3) := by decide +kernel
theorem dX5_part_43 : decode cX5_part 43 = .ok (.aload_n 0, 1) := by decide +kernel
theorem dX5_part_44 : decode cX5_part 44 = .ok (.getfield 32, 3) := by decide +kernel
theorem dX5_part_47 : decode cX5_part 47 = .ok (.iload_n 2, 1) := by decide +kernel
theorem dX5_part_48 : decode cX5_part 48 = .ok (.invokevirtual 247, 3) := by decide +kernel
theorem dX5_part_51 : decode cX5_part 51 = .ok (.aload_n 0, 1) := by decide +kernel
theorem dX5_part_52 : decode cX5_part 52 = .ok (.invokevirtual 96, 3) := by decide +kernel
theorem dX5_part_55 : decode cX5_part 55 = .ok (.ireturn, 1) := by decide +kernel
theorem dX5_alike_0 : decode cX5_alike 0 = .ok (.aload_n 0, 1) := by decide +kernel
theorem dX5_alike_1 : decode cX5_alike 1 = .ok (.iload_n 1, 1) := by decide +kernel
theorem dX5_alike_2 : decode cX5_alike 2 = .ok (.invokevirtual 226, 3) := by decide +kernel
theorem dX5_alike_5 : decode cX5_alike 5 = .ok (.astore_n 3, 1) := by decide +kernel
theorem dX5_alike_6 : decode cX5_alike 6 = .ok (.aload_n 0, 1) := by decide +kernel
theorem dX5_alike_7 : decode cX5_alike 7 = .ok (.iload_n 2, 1) := by decide +kernel
theorem dX5_alike_8 : decode cX5_alike 8 = .ok (.invokevirtual 226, 3) := by decide +kernel
theorem dX5_alike_11 : decode cX5_alike 11 = .ok (.astore 4, 2) := by decide +kernel
theorem dX5_alike_13 : decode cX5_alike 13 = .ok (.aload_n 3, 1) := by decide +kernel
theorem dX5_alike_14 : decode cX5_alike 14 = .ok (.ifnull 8, 3) := by decide +kernel
theorem dX5_alike_17 : decode cX5_alike 17 = .ok (.aload 4, 2) := by decide +kernel
theorem dX5_alike_19 : decode cX5_alike 19 = .ok (.ifnonnull 13, 3) := by decide +kernel
theorem dX5_alike_22 : decode cX5_alike 22 = .ok (.new 51, 3) := by decide +kernel
theorem dX5_alike_25 : decode cX5_alike 25 = .ok (.dup, 1) := by decide +kernel
theorem dX5_alike_26 : decode cX5_alike 26 = .ok (.ldc 229, 2) := by decide +kernel
theorem dX5_alike_28 : decode cX5_alike 28 = .ok (.invokespecial 55, 3) := by decide +kernel
theorem dX5_alike_31 : decode cX5_alike 31 = .ok (.athrow, 1) := by decide +kernel
theorem dX5_alike_32 : decode cX5_alike 32 = .ok (.aload_n 0, 1) := by decide +kernel
theorem dX5_alike_33 : decode cX5_alike 33 = .ok (.getfield 32, 3) := by decide +kernel
theorem dX5_alike_36 : decode cX5_alike 36 = .ok (.aload_n 3, 1) := by decide +kernel
theorem dX5_alike_37 : decode cX5_alike 37 = .ok (.invokevirtual 130, 3) := by decide +kernel
theorem dX5_alike_40 : decode cX5_alike 40 = .ok (.aload_n 0, 1) := by decide +kernel
theorem dX5_alike_41 : decode cX5_alike 41 = .ok (.getfield 36, 3) := by decide +kernel
theorem dX5_alike_44 : decode cX5_alike 44 = .ok (.aload 4, 2) := by decide +kernel
theorem dX5_alike_46 : decode cX5_alike 46 = .ok (.invokevirtual 130, 3) := by decide +kernel
theorem dX5_alike_49 : decode cX5_alike 49 = .ok (.aload_n 0, 1) := by decide +kernel
theorem dX5_alike_50 : decode cX5_alike 50 = .ok (.getfield 32, 3) := by decide +kernel
theorem dX5_alike_53 : decode cX5_alike 53 = .ok (.aload_n 0, 1) := by decide +kernel
theorem dX5_alike_54 : decode cX5_alike 54 = .ok (.getfield 36, 3) := by decide +kernel
theorem dX5_alike_57 : decode cX5_alike 57 = .ok (.invokevirtual 250, 3) := by decide +kernel
theorem dX5_alike_60 : decode cX5_alike 60 = .ok (.ireturn, 1) := by decide +kernel
theorem dX5_count_0 : decode cX5_count 0 = .ok (.iload_n 1, 1) := by decide +kernel
theorem dX5_count_1 : decode cX5_count 1 = .ok (.tableswitch 60 0 4 #[35, 40, 45, 50, 55], 35) := by decide +kernel
theorem dX5_count_36 : decode cX5_count 36 = .ok (.aload_n 0, 1) := by decide +kernel
theorem dX5_count_37 : decode cX5_count 37 = .ok (.getfield 254, 3) := by decide +kernel
theorem dX5_count_40 : decode cX5_count 40 = .ok (.ireturn, 1) := by decide +kernel
theorem dX5_count_41 : decode cX5_count 41 = .ok (.aload_n 0, 1) := by decide +kernel
theorem dX5_count_42 : decode cX5_count 42 = .ok (.getfield 58, 3) := by decide +kernel
theorem dX5_count_45 : decode cX5_count 45 = .ok (.ireturn, 1) := by decide +kernel
theorem dX5_count_46 : decode cX5_count 46 = .ok (.aload_n 0, 1) := by decide +kernel
theorem dX5_count_47 : decode cX5_count 47 = .ok (.getfield 200, 3) := by decide +kernel
theorem dX5_count_50 : decode cX5_count 50 = .ok (.ireturn, 1) := by decide +kernel
theorem dX5_count_51 : decode cX5_count 51 = .ok (.aload_n 0, 1) := by decide +kernel
theorem dX5_count_52 : decode cX5_count 52 = .ok (.getfield 257, 3) := by decide +kernel
theorem dX5_count_55 : decode cX5_count 55 = .ok (.ireturn, 1) := by decide +kernel
theorem dX5_count_56 : decode cX5_count 56 = .ok (.aload_n 0, 1) := by decide +kernel
theorem dX5_count_57 : decode cX5_count 57 = .ok (.getfield 260, 3) := by decide +kernel
theorem dX5_count_60 : decode cX5_count 60 = .ok (.ireturn, 1) := by decide +kernel
theorem dX5_count_61 : decode cX5_count 61 = .ok (.new 51, 3) := by decide +kernel
theorem dX5_count_64 : decode cX5_count 64 = .ok (.dup, 1) := by decide +kernel
theorem dX5_count_65 : decode cX5_count 65 = .ok (.ldc_w 263, 3) := by decide +kernel
theorem dX5_count_68 : decode cX5_count 68 = .ok (.invokespecial 55, 3) := by decide +kernel
theorem dX5_count_71 : decode cX5_count 71 = .ok (.athrow, 1) := by decide +kernel
theorem dX5_fit_0 : decode cX5_fit 0 = .ok (.aload_n 0, 1) := by decide +kernel
theorem dX5_fit_1 : decode cX5_fit 1 = .ok (.getfield 47, 3) := by decide +kernel
theorem dX5_fit_4 : decode cX5_fit 4 = .ok (.ireturn, 1) := by decide +kernel
theorem dX4_init_0 : decode cX4_init 0 = .ok (.aload_n 0, 1) := by decide +kernel
theorem dX4_init_1 : decode cX4_init 1 = .ok (.invokespecial 3, 3) := by decide +kernel
theorem dX4_init_4 : decode cX4_init 4 = .ok (.aload_n 0, 1) := by decide +kernel
theorem dX4_init_5 : decode cX4_init 5 = .ok (.sipush 512, 3) := by decide +kernel
theorem dX4_init_8 : decode cX4_init 8 = .ok (.newarray .int, 2) := by decide +kernel
theorem dX4_init_10 : decode cX4_init 10 = .ok (.putfield 11, 3) := by decide +kernel
theorem dX4_init_13 : decode cX4_init 13 = .ok (.aload_n 0, 1) := by decide +kernel
theorem dX4_init_14 : decode cX4_init 14 = .ok (.getfield 11, 3) := by decide +kernel
theorem dX4_init_17 : decode cX4_init 17 = .ok (.iconst 0, 1) := by decide +kernel
theorem dX4_init_18 : decode cX4_init 18 = .ok (.iconst 3, 1) := by decide +kernel
theorem dX4_init_19 : decode cX4_init 19 = .ok (.iastore, 1) := by decide +kernel
theorem dX4_init_20 : decode cX4_init 20 = .ok (.aload_n 0, 1) := by decide +kernel
theorem dX4_init_21 : decode cX4_init 21 = .ok (.iconst 1, 1) := by decide +kernel
theorem dX4_init_22 : decode cX4_init 22 = .ok (.putfield 15, 3) := by decide +kernel
theorem dX4_init_25 : decode cX4_init 25 = .ok (.return_, 1) := by decide +kernel
theorem dX4_setOnly_0 : decode cX4_setOnly 0 = .ok (.aload_n 0, 1) := by decide +kernel
theorem dX4_setOnly_1 : decode cX4_setOnly 1 = .ok (.getfield 11, 3) := by decide +kernel
theorem dX4_setOnly_4 : decode cX4_setOnly 4 = .ok (.iconst 0, 1) := by decide +kernel
theorem dX4_setOnly_5 : decode cX4_setOnly 5 = .ok (.iload_n 1, 1) := by decide +kernel
theorem dX4_setOnly_6 : decode cX4_setOnly 6 = .ok (.iastore, 1) := by decide +kernel
theorem dX4_setOnly_7 : decode cX4_setOnly 7 = .ok (.aload_n 0, 1) := by decide +kernel
theorem dX4_setOnly_8 : decode cX4_setOnly 8 = .ok (.iconst 1, 1) := by decide +kernel
theorem dX4_setOnly_9 : decode cX4_setOnly 9 = .ok (.putfield 15, 3) := by decide +kernel
theorem dX4_setOnly_12 : decode cX4_setOnly 12 = .ok (.aload_n 0, 1) := by decide +kernel
theorem dX4_setOnly_13 : decode cX4_setOnly 13 = .ok (.iconst 0, 1) := by decide +kernel
theorem dX4_setOnly_14 : decode cX4_setOnly 14 = .ok (.putfield 19, 3) := by decide +kernel
theorem dX4_setOnly_17 : decode cX4_setOnly 17 = .ok (.return_, 1) := by decide +kernel
theorem dX4_isTooLarge_0 : decode cX4_isTooLarge 0 = .ok (.aload_n 0, 1) := by decide +kernel
theorem dX4_isTooLarge_1 : decode cX4_isTooLarge 1 = .ok (.getfield 19, 3) := by decide +kernel
theorem dX4_isTooLarge_4 : decode cX4_isTooLarge 4 = .ok (.ifCond .ne 12, 3) := by decide +kernel
theorem dX4_isTooLarge_7 : decode cX4_isTooLarge 7 = .ok (.aload_n 0, 1) := by decide +kernel
theorem dX4_isTooLarge_8 : decode cX4_isTooLarge 8 = .ok (.getfield 15, 3) := by decide +kernel
theorem dX4_isTooLarge_11 : decode cX4_isTooLarge 11 = .ok (.bipush 100, 2) := by decide +kernel
theorem dX4_isTooLarge_13 : decode cX4_isTooLarge 13 = .ok (.if_icmp .le 7, 3) := by decide +kernel
theorem dX4_isTooLarge_16 : decode cX4_isTooLarge 16 = .ok (.iconst 1, 1) := by decide +kernel
theorem dX4_isTooLarge_17 : decode cX4_isTooLarge 17 = .ok (.goto 4, 3) := by decide +kernel
theorem dX4_isTooLarge_20 : decode cX4_isTooLarge 20 = .ok (.iconst 0, 1) := by decide +kernel
theorem dX4_isTooLarge_21 : decode cX4_isTooLarge 21 = .ok (.ireturn, 1) := by decide +kernel
theorem dJ7_copyOf_59c91_0 : decode cJ7_copyOf_59c91 0 = .ok (.iload_n 1, 1) := by decide +kernel
theorem dJ7_copyOf_59c91_1 : decode cJ7_copyOf_59c91 1 = .ok (.aload_n 0, 1) := by decide +kernel
theorem dJ7_copyOf_59c91_2 : decode cJ7_copyOf_59c91 2 = .ok (.arraylength, 1) := by decide +kernel
theorem dJ7_copyOf_59c91_3 : decode cJ7_copyOf_59c91 3 = .ok (.if_icmp .ne 11, 3) := by decide +kernel
theorem dJ7_copyOf_59c91_6 : decode cJ7_copyOf_59c91 6 = .ok (.aload_n 0, 1) := by decide +kernel
theorem dJ7_copyOf_59c91_7 : decode cJ7_copyOf_59c91 7 = .ok (.invokevirtual 316, 3) := by decide +kernel
theorem dJ7_copyOf_59c91_10 : decode cJ7_copyOf_59c91 10 = .ok (.checkcast 317, 3) := by decide +kernel
theorem dJ7_copyOf_59c91_13 : decode cJ7_copyOf_59c91 13 = .ok (.areturn, 1) := by decide +kernel
theorem dJ7_copyOf_59c91_14 : decode cJ7_copyOf_59c91 14 = .ok (.iload_n 1, 1) := by decide +kernel
theorem dJ7_copyOf_59c91_15 : decode cJ7_copyOf_59c91 15 = .ok (.newarray .int, 2) := by decide +kernel
theorem dJ7_copyOf_59c91_17 : decode cJ7_copyOf_59c91 17 = .ok (.astore_n 2, 1) := by decide +kernel
theorem dJ7_copyOf_59c91_18 : decode cJ7_copyOf_59c91 18 = .ok (.aload_n 0, 1) := by decide +kernel
theorem dJ7_copyOf_59c91_19 : decode cJ7_copyOf_59c91 19 = .ok (.iconst 0, 1) := by decide +kernel
theorem dJ7_copyOf_59c91_20 : decode cJ7_copyOf_59c91 20 = .ok (.aload_n 2, 1) := by decide +kernel
theorem dJ7_copyOf_59c91_21 : decode cJ7_copyOf_59c91 21 = .ok (.iconst 0, 1) := by decide +kernel
theorem dJ7_copyOf_59c91_22 : decode cJ7_copyOf_59c91 22 = .ok (.aload_n 0, 1) := by decide +kernel
theorem dJ7_copyOf_59c91_23 : decode cJ7_copyOf_59c91 23 = .ok (.arraylength, 1) := by decide +kernel
theorem dJ7_copyOf_59c91_24 : decode cJ7_copyOf_59c91 24 = .ok (.iload_n 1, 1) := by decide +kernel
theorem dJ7_copyOf_59c91_25 : decode cJ7_copyOf_59c91 25 = .ok (.invokestatic 304, 3) := by decide +kernel
theorem dJ7_copyOf_59c91_28 : decode cJ7_copyOf_59c91 28 = .ok (.invokestatic 150, 3) := by decide +kernel
theorem dJ7_copyOf_59c91_31 : decode cJ7_copyOf_59c91 31 = .ok (.aload_n 2, 1) := by decide +kernel
theorem dJ7_copyOf_59c91_32 : decode cJ7_copyOf_59c91 32 = .ok (.areturn, 1) := by decide +kernel
theorem dX2_init_0 : decode cX2_init 0 = .ok (.aload_n 0, 1) := by decide +kernel
theorem dX2_init_1 : decode cX2_init 1 = .ok (.invokespecial 3, 3) := by decide +kernel
theorem dX2_init_4 : decode cX2_init 4 = .ok (.iconst 0, 1) := by decide +kernel
theorem dX2_init_5 : decode cX2_init 5 = .ok (.istore_n 2, 1) := by decide +kernel
theorem dX2_init_6 : decode cX2_init 6 = .ok (.iconst 0, 1) := by decide +kernel
theorem dX2_init_7 : decode cX2_init 7 = .ok (.istore_n 3, 1) := by decide +kernel
theorem dX2_init_8 : decode cX2_init 8 = .ok (.iconst 0, 1) := by decide +kernel
theorem dX2_init_9 : decode cX2_init 9 = .ok (.istore 4, 2) := by decide +kernel
theorem dX2_init_11 : decode cX2_init 11 = .ok (.iload 4, 2) := by decide +kernel
theorem dX2_init_13 : decode cX2_init 13 = .ok (.aload_n 1, 1) := by decide +kernel
theorem dX2_init_14 : decode cX2_init 14 = .ok (.arraylength, 1) := by decide +kernel
theorem dX2_init_15 : decode cX2_init 15 = .ok (.if_icmp .ge 58, 3) := by decide +kernel
theorem dX2_init_18 : decode cX2_init 18 = .ok (.aload_n 1, 1) := by decide +kernel
theorem dX2_init_19 : decode cX2_init 19 = .ok (.iload 4, 2) := by decide +kernel
theorem dX2_init_21 : decode cX2_init 21 = .ok (.iaload, 1) := by decide +kernel
theorem dX2_init_22 : decode cX2_init 22 = .ok (.invokestatic 9, 3) := by decide +kernel
theorem dX2_init_25 : decode cX2_init 25 = .ok (.istore 5, 2) := by decide +kernel
theorem dX2_init_27 : decode cX2_init 27 = .ok (.aload_n 1, 1) := by decide +kernel
theorem dX2_init_28 : decode cX2_init 28 = .ok (.iload 4, 2) := by decide +kernel
theorem dX2_init_30 : decode cX2_init 30 = .ok (.iaload, 1) := by decide +kernel
theorem dX2_init_31 : decode cX2_init 31 = .ok (.invokestatic 15, 3) := by decide +kernel
theorem dX2_init_34 : decode cX2_init 34 = .ok (.iconst 2, 1) := by decide +kernel
theorem dX2_init_35 : decode cX2_init 35 = .ok (.if_icmp .ne 10, 3) := by decide +kernel
theorem dX2_init_38 : decode cX2_init 38 = .ok (.iload 5, 2) := by decide +kernel
theorem dX2_init_40 : decode cX2_init 40 = .ok (.ifCond .ge 5, 3) := by decide +kernel
theorem dX2_init_43 : decode cX2_init 43 = .ok (.iconst 1, 1) := by decide +kernel
theorem dX2_init_44 : decode cX2_init 44 = .ok (.istore_n 2, 1) := by decide +kernel
theorem dX2_init_45 : decode cX2_init 45 = .ok (.aload_n 1, 1) := by decide +kernel
theorem dX2_init_46 : decode cX2_init 46 = .ok (.iload 4, 2) := by decide +kernel
theorem dX2_init_48 : decode cX2_init 48 = .ok (.iaload, 1) := by decide +kernel
theorem dX2_init_49 : decode cX2_init 49 = .ok (.invokestatic 15, 3) := by decide +kernel
theorem dX2_init_52 : decode cX2_init 52 = .ok (.iconst 1, 1) := by decide +kernel
theorem dX2_init_53 : decode cX2_init 53 = .ok (.if_icmp .ne 14, 3) := by decide +kernel
theorem dX2_init_56 : decode cX2_init 56 = .ok (.iload 5, 2) := by decide +kernel
theorem dX2_init_58 : decode cX2_init 58 = .ok (.iload_n 3, 1) := by decide +kernel
theorem dX2_init_59 : decode cX2_init 59 = .ok (.if_icmp .lt 8, 3) := by decide +kernel
theorem dX2_init_62 : decode cX2_init 62 = .ok (.iload 5, 2) := by decide +kernel
theorem dX2_init_64 : decode cX2_init 64 = .ok (.iconst 1, 1) := by decide +kernel
theorem dX2_init_65 : decode cX2_init 65 = .ok (.iadd, 1) := by decide +kernel
theorem dX2_init_66 : decode cX2_init 66 = .ok (.istore_n 3, 1) := by decide +kernel
theorem dX2_init_67 : decode cX2_init 67 = .ok (.iinc 4 1, 3) := by decide +kernel
theorem dX2_init_70 : decode cX2_init 70 = .ok (.goto (-59), 3) := by decide +kernel
theorem dX2_init_73 : decode cX2_init 73 = .ok (.aload_n 0, 1) := by decide +kernel
theorem dX2_init_74 : decode cX2_init 74 = .ok (.aload_n 1, 1) := by decide +kernel
theorem dX2_init_75 : decode cX2_init 75 = .ok (.putfield 18, 3) := by decide +kernel
theorem dX2_init_78 : decode cX2_init 78 = .ok (.aload_n 0, 1) := by decide +kernel
theorem dX2_init_79 : decode cX2_init 79 = .ok (.iload_n 2, 1) := by decide +kernel
theorem dX2_init_80 : decode cX2_init 80 = .ok (.ifCond .ne 7, 3) := by decide +kernel
theorem dX2_init_83 : decode cX2_init 83 = .ok (.iconst 1, 1) := by decide +kernel
theorem dX2_init_84 : decode cX2_init 84 = .ok (.goto 4, 3) := by decide +kernel
theorem dX2_init_87 : decode cX2_init 87 = .ok (.iconst 0, 1) := by decide +kernel
theorem dX2_init_88 : decode cX2_init 88 = .ok (.putfield 24, 3) := by decide +kernel
theorem dX2_init_91 : decode cX2_init 91 = .ok (.aload_n 0, 1) := by decide +kernel
theorem dX2_init_92 : decode cX2_init 92 = .ok (.iload_n 3, 1) := by decide +kernel
theorem dX2_init_93 : decode cX2_init 93 = .ok (.putfield 28, 3) := by decide +kernel
theorem dX2_init_96 : decode cX2_init 96 = .ok (.return_, 1) := by decide +kernel
theorem dX4_toForm_0 : decode cX4_toForm 0 = .ok (.new 28, 3) := by decide +kernel
theorem dX4_toForm_3 : decode cX4_toForm 3 = .ok (.dup, 1) := by decide +kernel
theorem dX4_toForm_4 : decode cX4_toForm 4 = .ok (.aload_n 0, 1) := by decide +kernel
theorem dX4_toForm_5 : decode cX4_toForm 5 = .ok (.getfield 11, 3) := by decide +kernel
theorem dX4_toForm_8 : decode cX4_toForm 8 = .ok (.aload_n 0, 1) := by decide +kernel
theorem dX4_toForm_9 : decode cX4_toForm 9 = .ok (.getfield 15, 3) := by decide +kernel
theorem dX4_toForm_12 : decode cX4_toForm 12 = .ok (.invokestatic 40, 3) := by decide +kernel
theorem dX4_toForm_15 : decode cX4_toForm 15 = .ok (.invokespecial 46, 3) := by decide +kernel
theorem dX4_toForm_18 : decode cX4_toForm 18 = .ok (.areturn, 1) := by decide +kernel
theorem dX5_keepWork_0 : decode cX5_keepWork 0 = .ok (.aload_n 0, 1) := by decide +kernel
theorem dX5_keepWork_1 : decode cX5_keepWork 1 = .ok (.getfield 254, 3) := by decide +kernel
theorem dX5_keepWork_4 : decode cX5_keepWork 4 = .ok (.sipush 1000, 3) := by decide +kernel
theorem dX5_keepWork_7 : decode cX5_keepWork 7 = .ok (.if_icmp .lt 14, 3) := by decide +kernel
theorem dX5_keepWork_10 : decode cX5_keepWork 10 = .ok (.new 62, 3) := by decide +kernel
theorem dX5_keepWork_13 : decode cX5_keepWork 13 = .ok (.dup, 1) := by decide +kernel
theorem dX5_keepWork_14 : decode cX5_keepWork 14 = .ok (.ldc_w 290, 3) := by decide +kernel
theorem dX5_keepWork_17 : decode cX5_keepWork 17 = .ok (.invokespecial 66, 3) := by decide +kernel
theorem dX5_keepWork_20 : decode cX5_keepWork 20 = .ok (.athrow, 1) := by decide +kernel
theorem dX5_keepWork_21 : decode cX5_keepWork 21 = .ok (.aload_n 0, 1) := by decide +kernel
theorem dX5_keepWork_22 : decode cX5_keepWork 22 = .ok (.getfield 32, 3) := by decide +kernel
theorem dX5_keepWork_25 : decode cX5_keepWork 25 = .ok (.invokevirtual 292, 3) := by decide +kernel
theorem dX5_keepWork_28 : decode cX5_keepWork 28 = .ok (.ifCond .eq 14, 3) := by decide +kernel
theorem dX5_keepWork_31 : decode cX5_keepWork 31 = .ok (.new 62, 3) := by decide +kernel
theorem dX5_keepWork_34 : decode cX5_keepWork 34 = .ok (.dup, 1) := by decide +kernel
theorem dX5_keepWork_35 : decode cX5_keepWork 35 = .ok (.ldc_w 295, 3) := by decide +kernel
theorem dX5_keepWork_38 : decode cX5_keepWork 38 = .ok (.invokespecial 66, 3) := by decide +kernel
theorem dX5_keepWork_41 : decode cX5_keepWork 41 = .ok (.athrow, 1) := by decide +kernel
theorem dX5_keepWork_42 : decode cX5_keepWork 42 = .ok (.aload_n 0, 1) := by decide +kernel
theorem dX5_keepWork_43 : decode cX5_keepWork 43 = .ok (.getfield 11, 3) := by decide +kernel
theorem dX5_keepWork_46 : decode cX5_keepWork 46 = .ok (.aload_n 0, 1) := by decide +kernel
theorem dX5_keepWork_47 : decode cX5_keepWork 47 = .ok (.getfield 254, 3) := by decide +kernel
theorem dX5_keepWork_50 : decode cX5_keepWork 50 = .ok (.aload_n 0, 1) := by decide +kernel
theorem dX5_keepWork_51 : decode cX5_keepWork 51 = .ok (.getfield 32, 3) := by decide +kernel
theorem dX5_keepWork_54 : decode cX5_keepWork 54 = .ok (.invokevirtual 39, 3) := by decide +kernel
theorem dX5_keepWork_57 : decode cX5_keepWork 57 = .ok (.aastore, 1) := by decide +kernel
theorem dX5_keepWork_58 : decode cX5_keepWork 58 = .ok (.aload_n 0, 1) := by decide +kernel
theorem dX5_keepWork_59 : decode cX5_keepWork 59 = .ok (.dup, 1) := by decide +kernel
theorem dX5_keepWork_60 : decode cX5_keepWork 60 = .ok (.getfield 254, 3) := by decide +kernel
theorem dX5_keepWork_63 : decode cX5_keepWork 63 = .ok (.iconst 1, 1) := by decide +kernel
theorem dX5_keepWork_64 : decode cX5_keepWork 64 = .ok (.iadd, 1) := by decide +kernel
theorem dX5_keepWork_65 : decode cX5_keepWork 65 = .ok (.putfield 254, 3) := by decide +kernel
theorem dX5_keepWork_68 : decode cX5_keepWork 68 = .ok (.aload_n 0, 1) := by decide +kernel
theorem dX5_keepWork_69 : decode cX5_keepWork 69 = .ok (.getfield 254, 3) := by decide +kernel
theorem dX5_keepWork_72 : decode cX5_keepWork 72 = .ok (.iconst 1, 1) := by decide +kernel
theorem dX5_keepWork_73 : decode cX5_keepWork 73 = .ok (.isub, 1) := by decide +kernel
theorem dX5_keepWork_74 : decode cX5_keepWork 74 = .ok (.ireturn, 1) := by decide +kernel
theorem dX5_keepNewConstant_0 : decode cX5_keepNewConstant 0 = .ok (.aload_n 0, 1) := by decide +kernel
theorem dX5_keepNewConstant_1 : decode cX5_keepNewConstant 1 = .ok (.getfield 32, 3) := by decide +kernel
theorem dX5_keepNewConstant_4 : decode cX5_keepNewConstant 4 = .ok (.iconst 0, 1) := by decide +kernel
theorem dX5_keepNewConstant_5 : decode cX5_keepNewConstant 5 = .ok (.aload_n 0, 1) := by decide +kernel
theorem dX5_keepNewConstant_6 : decode cX5_keepNewConstant 6 = .ok (.getfield 260, 3) := by decide +kernel
theorem dX5_keepNewConstant_9 : decode cX5_keepNewConstant 9 = .ok (.invokestatic 86, 3) := by decide +kernel
theorem dX5_keepNewConstant_12 : decode cX5_keepNewConstant 12 = .ok (.invokevirtual 92, 3) := by decide +kernel
theorem dX5_keepNewConstant_15 : decode cX5_keepNewConstant 15 = .ok (.aload_n 0, 1) := by decide +kernel
theorem dX5_keepNewConstant_16 : decode cX5_keepNewConstant 16 = .ok (.invokevirtual 96, 3) := by decide +kernel
theorem dX5_keepNewConstant_19 : decode cX5_keepNewConstant 19 = .ok (.istore_n 1, 1) := by decide +kernel
theorem dX5_keepNewConstant_20 : decode cX5_keepNewConstant 20 = .ok (.aload_n 0, 1) := by decide +kernel
theorem dX5_keepNewConstant_21 : decode cX5_keepNewConstant 21 = .ok (.dup, 1) := by decide +kernel
theorem dX5_keepNewConstant_22 : decode cX5_keepNewConstant 22 = .ok (.getfield 260, 3) := by decide +kernel
theorem dX5_keepNewConstant_25 : decode cX5_keepNewConstant 25 = .ok (.iconst 1, 1) := by decide +kernel
theorem dX5_keepNewConstant_26 : decode cX5_keepNewConstant 26 = .ok (.iadd, 1) := by decide +kernel
theorem dX5_keepNewConstant_27 : decode cX5_keepNewConstant 27 = .ok (.putfield 260, 3) := by decide +kernel
theorem dX5_keepNewConstant_30 : decode cX5_keepNewConstant 30 = .ok (.iload_n 1, 1) := by decide +kernel
theorem dX5_keepNewConstant_31 : decode cX5_keepNewConstant 31 = .ok (.ireturn, 1) := by decide +kernel
theorem dX5_constant_0 : decode cX5_constant 0 = .ok (.aload_n 0, 1) := by decide +kernel
theorem dX5_constant_1 : decode cX5_constant 1 = .ok (.invokevirtual 80, 3) := by decide +kernel
theorem dX5_constant_4 : decode cX5_constant 4 = .ok (.ireturn, 1) := by decide +kernel
theorem dX5_locus_0 : decode cX5_locus 0 = .ok (.iload_n 1, 1) := by decide +kernel
theorem dX5_locus_1 : decode cX5_locus 1 = .ok (.ifCond .lt 8, 3) := by decide +kernel
theorem dX5_locus_4 : decode cX5_locus 4 = .ok (.iload_n 1, 1) := by decide +kernel
theorem dX5_locus_5 : decode cX5_locus 5 = .ok (.iconst 2, 1) := by decide +kernel
theorem dX5_locus_6 : decode cX5_locus 6 = .ok (.if_icmp .lt 13, 3) := by decide +kernel
theorem dX5_locus_9 : decode cX5_locus 9 = .ok (.new 51, 3) := by decide +kernel
theorem dX5_locus_12 : decode cX5_locus 12 = .ok (.dup, 1) := by decide +kernel
theorem dX5_locus_13 : decode cX5_locus 13 = .ok (.ldc 84, 2) := by decide +kernel
theorem dX5_locus_15 : decode cX5_locus 15 = .ok (.invokespecial 55, 3) := by decide +kernel
theorem dX5_locus_18 : decode cX5_locus 18 = .ok (.athrow, 1) := by decide +kernel
theorem dX5_locus_19 : decode cX5_locus 19 = .ok (.aload_n 0, 1) := by decide +kernel
theorem dX5_locus_20 : decode cX5_locus 20 = .ok (.getfield 32, 3) := by decide +kernel
theorem dX5_locus_23 : decode cX5_locus 23 = .ok (.iconst 1, 1) := by decide +kernel
theorem dX5_locus_24 : decode cX5_locus 24 = .ok (.iload_n 1, 1) := by decide +kernel
theorem dX5_locus_25 : decode cX5_locus 25 = .ok (.invokestatic 86, 3) := by decide +kernel
theorem dX5_locus_28 : decode cX5_locus 28 = .ok (.invokevirtual 92, 3) := by decide +kernel
theorem dX5_locus_31 : decode cX5_locus 31 = .ok (.aload_n 0, 1) := by decide +kernel
theorem dX5_locus_32 : decode cX5_locus 32 = .ok (.invokevirtual 96, 3) := by decide +kernel
theorem dX5_locus_35 : decode cX5_locus 35 = .ok (.ireturn, 1) := by decide +kernel
theorem dX5_joinIntoWork_0 : decode cX5_joinIntoWork 0 = .ok (.iload_n 1, 1) := by decide +kernel
theorem dX5_joinIntoWork_1 : decode cX5_joinIntoWork 1 = .ok (.tableswitch 167 0 4 #[35, 53, 72, 123, 135], 35) := by decide +kernel
theorem dX5_joinIntoWork_36 : decode cX5_joinIntoWork 36 = .ok (.aload_n 0, 1) := by decide +kernel
theorem dX5_joinIntoWork_37 : decode cX5_joinIntoWork 37 = .ok (.getfield 32, 3) := by decide +kernel
theorem dX5_joinIntoWork_40 : decode cX5_joinIntoWork 40 = .ok (.aload_n 2, 1) := by decide +kernel
theorem dX5_joinIntoWork_41 : decode cX5_joinIntoWork 41 = .ok (.invokevirtual 130, 3) := by decide +kernel
theorem dX5_joinIntoWork_44 : decode cX5_joinIntoWork 44 = .ok (.aload_n 0, 1) := by decide +kernel
theorem dX5_joinIntoWork_45 : decode cX5_joinIntoWork 45 = .ok (.getfield 32, 3) := by decide +kernel
theorem dX5_joinIntoWork_48 : decode cX5_joinIntoWork 48 = .ok (.invokevirtual 216, 3) := by decide +kernel
theorem dX5_joinIntoWork_51 : decode cX5_joinIntoWork 51 = .ok (.goto 125, 3) := by decide +kernel
theorem dX5_joinIntoWork_54 : decode cX5_joinIntoWork 54 = .ok (.aload_n 0, 1) := by decide +kernel
theorem dX5_joinIntoWork_55 : decode cX5_joinIntoWork 55 = .ok (.getfield 32, 3) := by decide +kernel
theorem dX5_joinIntoWork_58 : decode cX5_joinIntoWork 58 = .ok (.aload_n 3, 1) := by decide +kernel
theorem dX5_joinIntoWork_59 : decode cX5_joinIntoWork 59 = .ok (.invokevirtual 130, 3) := by decide +kernel
theorem dX5_joinIntoWork_62 : decode cX5_joinIntoWork 62 = .ok (.aload_n 0, 1) := by decide +kernel
theorem dX5_joinIntoWork_63 : decode cX5_joinIntoWork 63 = .ok (.getfield 32, 3) := by decide +kernel
theorem dX5_joinIntoWork_66 : decode cX5_joinIntoWork 66 = .ok (.aload_n 2, 1) := by decide +kernel
theorem dX5_joinIntoWork_67 : decode cX5_joinIntoWork 67 = .ok (.invokevirtual 280, 3) := by decide +kernel
theorem dX5_joinIntoWork_70 : decode cX5_joinIntoWork 70 = .ok (.goto 106, 3) := by decide +kernel
theorem dX5_joinIntoWork_73 : decode cX5_joinIntoWork 73 = .ok (.aload_n 0, 1) := by decide +kernel
theorem dX5_joinIntoWork_74 : decode cX5_joinIntoWork 74 = .ok (.getfield 36, 3) := by decide +kernel
theorem dX5_joinIntoWork_77 : decode cX5_joinIntoWork 77 = .ok (.aload_n 2, 1) := by decide +kernel
theorem dX5_joinIntoWork_78 : decode cX5_joinIntoWork 78 = .ok (.invokevirtual 130, 3) := by decide +kernel
theorem dX5_joinIntoWork_81 : decode cX5_joinIntoWork 81 = .ok (.aload_n 0, 1) := by decide +kernel
theorem dX5_joinIntoWork_82 : decode cX5_joinIntoWork 82 = .ok (.getfield 36, 3) := by decide +kernel
theorem dX5_joinIntoWork_85 : decode cX5_joinIntoWork 85 = .ok (.invokevirtual 216, 3) := by decide +kernel
theorem dX5_joinIntoWork_88 : decode cX5_joinIntoWork 88 = .ok (.aload_n 0, 1) := by decide +kernel
theorem dX5_joinIntoWork_89 : decode cX5_joinIntoWork 89 = .ok (.getfield 32, 3) := by decide +kernel
theorem dX5_joinIntoWork_92 : decode cX5_joinIntoWork 92 = .ok (.aload_n 3, 1) := by decide +kernel
theorem dX5_joinIntoWork_93 : decode cX5_joinIntoWork 93 = .ok (.invokevirtual 130, 3) := by decide +kernel
theorem dX5_joinIntoWork_96 : decode cX5_joinIntoWork 96 = .ok (.aload_n 0, 1) := by decide +kernel
theorem dX5_joinIntoWork_97 : decode cX5_joinIntoWork 97 = .ok (.getfield 32, 3) := by decide +kernel
theorem dX5_joinIntoWork_100 : decode cX5_joinIntoWork 100 = .ok (.invokevirtual 216, 3) := by decide +kernel
theorem dX5_joinIntoWork_103 : decode cX5_joinIntoWork 103 = .ok (.aload_n 0, 1) := by decide +kernel
theorem dX5_joinIntoWork_104 : decode cX5_joinIntoWork 104 = .ok (.getfield 32, 3) := by decide +kernel
theorem dX5_joinIntoWork_107 : decode cX5_joinIntoWork 107 = .ok (.aload_n 0, 1) := by decide +kernel
theorem dX5_joinIntoWork_108 : decode cX5_joinIntoWork 108 = .ok (.getfield 36, 3) := by decide +kernel
theorem dX5_joinIntoWork_111 : decode cX5_joinIntoWork 111 = .ok (.invokevirtual 219, 3) := by decide +kernel
theorem dX5_joinIntoWork_114 : decode cX5_joinIntoWork 114 = .ok (.aload_n 0, 1) := by decide +kernel
theorem dX5_joinIntoWork_115 : decode cX5_joinIntoWork 115 = .ok (.getfield 32, 3) := by decide +kernel
theorem dX5_joinIntoWork_118 : decode cX5_joinIntoWork 118 = .ok (.invokevirtual 216, 3) := by decide +kernel
theorem dX5_joinIntoWork_121 : decode cX5_joinIntoWork 121 = .ok (.goto 55, 3) := by decide +kernel
theorem dX5_joinIntoWork_124 : decode cX5_joinIntoWork 124 = .ok (.aload_n 0, 1) := by decide +kernel
theorem dX5_joinIntoWork_125 : decode cX5_joinIntoWork 125 = .ok (.getfield 32, 3) := by decide +kernel
theorem dX5_joinIntoWork_128 : decode cX5_joinIntoWork 128 = .ok (.aload_n 2, 1) := by decide +kernel
theorem dX5_joinIntoWork_129 : decode cX5_joinIntoWork 129 = .ok (.aload_n 3, 1) := by decide +kernel
theorem dX5_joinIntoWork_130 : decode cX5_joinIntoWork 130 = .ok (.invokestatic 283, 3) := by decide +kernel
theorem dX5_joinIntoWork_133 : decode cX5_joinIntoWork 133 = .ok (.goto 43, 3) := by decide +kernel
theorem dX5_joinIntoWork_136 : decode cX5_joinIntoWork 136 = .ok (.aload_n 0, 1) := by decide +kernel
theorem dX5_joinIntoWork_137 : decode cX5_joinIntoWork 137 = .ok (.getfield 36, 3) := by decide +kernel
theorem dX5_joinIntoWork_140 : decode cX5_joinIntoWork 140 = .ok (.aload_n 2, 1) := by decide +kernel
theorem dX5_joinIntoWork_141 : decode cX5_joinIntoWork 141 = .ok (.aload_n 3, 1) := by decide +kernel
theorem dX5_joinIntoWork_142 : decode cX5_joinIntoWork 142 = .ok (.invokestatic 283, 3) := by decide +kernel
theorem dX5_joinIntoWork_145 : decode cX5_joinIntoWork 145 = .ok (.aload_n 0, 1) := by decide +kernel
theorem dX5_joinIntoWork_146 : decode cX5_joinIntoWork 146 = .ok (.getfield 32, 3) := by decide +kernel
theorem dX5_joinIntoWork_149 : decode cX5_joinIntoWork 149 = .ok (.aload_n 3, 1) := by decide +kernel
theorem dX5_joinIntoWork_150 : decode cX5_joinIntoWork 150 = .ok (.aload_n 2, 1) := by decide +kernel
theorem dX5_joinIntoWork_151 : decode cX5_joinIntoWork 151 = .ok (.invokestatic 283, 3) := by decide +kernel
theorem dX5_joinIntoWork_154 : decode cX5_joinIntoWork 154 = .ok (.aload_n 0, 1) := by decide +kernel
theorem dX5_joinIntoWork_155 : decode cX5_joinIntoWork 155 = .ok (.getfield 32, 3) := by decide +kernel
theorem dX5_joinIntoWork_158 : decode cX5_joinIntoWork 158 = .ok (.aload_n 0, 1) := by decide +kernel
theorem dX5_joinIntoWork_159 : decode cX5_joinIntoWork 159 = .ok (.getfield 36, 3) := by decide +kernel
theorem dX5_joinIntoWork_162 : decode cX5_joinIntoWork 162 = .ok (.invokevirtual 219, 3) := by decide +kernel
theorem dX5_joinIntoWork_165 : decode cX5_joinIntoWork 165 = .ok (.goto 11, 3) := by decide +kernel
theorem dX5_joinIntoWork_168 : decode cX5_joinIntoWork 168 = .ok (.aload_n 0, 1) := by decide +kernel
theorem dX5_joinIntoWork_169 : decode cX5_joinIntoWork 169 = .ok (.getfield 32, 3) := by decide +kernel
theorem dX5_joinIntoWork_172 : decode cX5_joinIntoWork 172 = .ok (.iconst 3, 1) := by decide +kernel
theorem dX5_joinIntoWork_173 : decode cX5_joinIntoWork 173 = .ok (.invokevirtual 92, 3) := by decide +kernel
theorem dX5_joinIntoWork_176 : decode cX5_joinIntoWork 176 = .ok (.return_, 1) := by decide +kernel
theorem dX5_join_0 : decode cX5_join 0 = .ok (.iload_n 1, 1) := by decide +kernel
theorem dX5_join_1 : decode cX5_join 1 = .ok (.ifCond .lt 8, 3) := by decide +kernel
theorem dX5_join_4 : decode cX5_join 4 = .ok (.iload_n 1, 1) := by decide +kernel
theorem dX5_join_5 : decode cX5_join 5 = .ok (.iconst 5, 1) := by decide +kernel
theorem dX5_join_6 : decode cX5_join 6 = .ok (.if_icmp .le 13, 3) := by decide +kernel
theorem dX5_join_9 : decode cX5_join 9 = .ok (.new 51, 3) := by decide +kernel
theorem dX5_join_12 : decode cX5_join 12 = .ok (.dup, 1) := by decide +kernel
theorem dX5_join_13 : decode cX5_join 13 = .ok (.ldc 113, 2) := by decide +kernel
theorem dX5_join_15 : decode cX5_join 15 = .ok (.invokespecial 55, 3) := by decide +kernel
theorem dX5_join_18 : decode cX5_join 18 = .ok (.athrow, 1) := by decide +kernel
theorem dX5_join_19 : decode cX5_join 19 = .ok (.aload_n 0, 1) := by decide +kernel
theorem dX5_join_20 : decode cX5_join 20 = .ok (.iload_n 2, 1) := by decide +kernel
theorem dX5_join_21 : decode cX5_join 21 = .ok (.iload_n 1, 1) := by decide +kernel
theorem dX5_join_22 : decode cX5_join 22 = .ok (.iconst 5, 1) := by decide +kernel
theorem dX5_join_23 : decode cX5_join 23 = .ok (.if_icmp .eq 7, 3) := by decide +kernel
theorem dX5_join_26 : decode cX5_join 26 = .ok (.iconst 1, 1) := by decide +kernel
theorem dX5_join_27 : decode cX5_join 27 = .ok (.goto 4, 3) := by decide +kernel
theorem dX5_join_30 : decode cX5_join 30 = .ok (.iconst 0, 1) := by decide +kernel
theorem dX5_join_31 : decode cX5_join 31 = .ok (.invokevirtual 115, 3) := by decide +kernel
theorem dX5_join_34 : decode cX5_join 34 = .ok (.ifCond .eq 25, 3) := by decide +kernel
theorem dX5_join_37 : decode cX5_join 37 = .ok (.aload_n 0, 1) := by decide +kernel
theorem dX5_join_38 : decode cX5_join 38 = .ok (.iload_n 3, 1) := by decide +kernel
theorem dX5_join_39 : decode cX5_join 39 = .ok (.iload_n 1, 1) := by decide +kernel
theorem dX5_join_40 : decode cX5_join 40 = .ok (.iconst 5, 1) := by decide +kernel
theorem dX5_join_41 : decode cX5_join 41 = .ok (.if_icmp .eq 11, 3) := by decide +kernel
theorem dX5_join_44 : decode cX5_join 44 = .ok (.iload_n 1, 1) := by decide +kernel
theorem dX5_join_45 : decode cX5_join 45 = .ok (.ifCond .eq 7, 3) := by decide +kernel
theorem dX5_join_48 : decode cX5_join 48 = .ok (.iconst 1, 1) := by decide +kernel
theorem dX5_join_49 : decode cX5_join 49 = .ok (.goto 4, 3) := by decide +kernel
theorem dX5_join_52 : decode cX5_join 52 = .ok (.iconst 0, 1) := by decide +kernel
theorem dX5_join_53 : decode cX5_join 53 = .ok (.invokevirtual 115, 3) := by decide +kernel
theorem dX5_join_56 : decode cX5_join 56 = .ok (.ifCond .ne 13, 3) := by decide +kernel
theorem dX5_join_59 : decode cX5_join 59 = .ok (.new 51, 3) := by decide +kernel
theorem dX5_join_62 : decode cX5_join 62 = .ok (.dup, 1) := by decide +kernel
theorem dX5_join_63 : decode cX5_join 63 = .ok (.ldc 118, 2) := by decide +kernel
theorem dX5_join_65 : decode cX5_join 65 = .ok (.invokespecial 55, 3) := by decide +kernel
theorem dX5_join_68 : decode cX5_join 68 = .ok (.athrow, 1) := by decide +kernel
theorem dX5_join_69 : decode cX5_join 69 = .ok (.aload_n 0, 1) := by decide +kernel
theorem dX5_join_70 : decode cX5_join 70 = .ok (.iload_n 1, 1) := by decide +kernel
theorem dX5_join_71 : decode cX5_join 71 = .ok (.aload_n 0, 1) := by decide +kernel
theorem dX5_join_72 : decode cX5_join 72 = .ok (.iload_n 2, 1) := by decide +kernel
theorem dX5_join_73 : decode cX5_join 73 = .ok (.invokevirtual 67, 3) := by decide +kernel
theorem dX5_join_76 : decode cX5_join 76 = .ok (.aload_n 0, 1) := by decide +kernel
theorem dX5_join_77 : decode cX5_join 77 = .ok (.iload_n 3, 1) := by decide +kernel
theorem dX5_join_78 : decode cX5_join 78 = .ok (.invokevirtual 67, 3) := by decide +kernel
theorem dX5_join_81 : decode cX5_join 81 = .ok (.invokevirtual 120, 3) := by decide +kernel
theorem dX5_join_84 : decode cX5_join 84 = .ok (.aload_n 0, 1) := by decide +kernel
theorem dX5_join_85 : decode cX5_join 85 = .ok (.invokevirtual 96, 3) := by decide +kernel
theorem dX5_join_88 : decode cX5_join 88 = .ok (.ireturn, 1) := by decide +kernel
theorem dX0_begin_0 : decode cX0_begin 0 = .ok (.aload_n 0, 1) := by decide +kernel
theorem dX0_begin_1 : decode cX0_begin 1 = .ok (.iload_n 1, 1) := by decide +kernel
theorem dX0_begin_2 : decode cX0_begin 2 = .ok (.putfield 9, 3) := by decide +kernel
theorem dX0_begin_5 : decode cX0_begin 5 = .ok (.aload_n 0, 1) := by decide +kernel
theorem dX0_begin_6 : decode cX0_begin 6 = .ok (.aload_n 2, 1) := by decide +kernel
theorem dX0_begin_7 : decode cX0_begin 7 = .ok (.putfield 15, 3) := by decide +kernel
theorem dX0_begin_10 : decode cX0_begin 10 = .ok (.aload_n 0, 1) := by decide +kernel
theorem dX0_begin_11 : decode cX0_begin 11 = .ok (.iconst 0, 1) := by decide +kernel
theorem dX0_begin_12 : decode cX0_begin 12 = .ok (.putfield 19, 3) := by decide +kernel
theorem dX0_begin_15 : decode cX0_begin 15 = .ok (.aload_n 0, 1) := by decide +kernel
theorem dX0_begin_16 : decode cX0_begin 16 = .ok (.iconst 0, 1) := by decide +kernel
theorem dX0_begin_17 : decode cX0_begin 17 = .ok (.putfield 23, 3) := by decide +kernel
theorem dX0_begin_20 : decode cX0_begin 20 = .ok (.aload_n 0, 1) := by decide +kernel
theorem dX0_begin_21 : decode cX0_begin 21 = .ok (.aconst_null, 1) := by decide +kernel
theorem dX0_begin_22 : decode cX0_begin 22 = .ok (.putfield 26, 3) := by decide +kernel
theorem dX0_begin_25 : decode cX0_begin 25 = .ok (.return_, 1) := by decide +kernel
theorem dX5_refuseWhileWaiting_0 : decode cX5_refuseWhileWaiting 0 = .ok (.aload_n 0, 1) := by decide +kernel
theorem dX5_refuseWhileWaiting_1 : decode cX5_refuseWhileWaiting 1 = .ok (.invokevirtual 169, 3) := by decide +kernel
theorem dX5_refuseWhileWaiting_4 : decode cX5_refuseWhileWaiting 4 = .ok (.astore_n 1, 1) := by decide +kernel
theorem dX5_refuseWhileWaiting_5 : decode cX5_refuseWhileWaiting 5 = .ok (.aload_n 1, 1) := by decide +kernel
theorem dX5_refuseWhileWaiting_6 : decode cX5_refuseWhileWaiting 6 = .ok (.ifnull 21, 3) := by decide +kernel
theorem dX5_refuseWhileWaiting_9 : decode cX5_refuseWhileWaiting 9 = .ok (.aload_n 1, 1) := by decide +kernel
theorem dX5_refuseWhileWaiting_10 : decode cX5_refuseWhileWaiting 10 = .ok (.getfield 172, 3) := by decide +kernel
theorem dX5_refuseWhileWaiting_13 : decode cX5_refuseWhileWaiting 13 = .ok (.ifCond .eq 14, 3) := by decide +kernel
theorem dX5_refuseWhileWaiting_16 : decode cX5_refuseWhileWaiting 16 = .ok (.new 62, 3) := by decide +kernel
theorem dX5_refuseWhileWaiting_19 : decode cX5_refuseWhileWaiting 19 = .ok (.dup, 1) := by decide +kernel
theorem dX5_refuseWhileWaiting_20 : decode cX5_refuseWhileWaiting 20 = .ok (.ldc_w 297, 3) := by decide +kernel
theorem dX5_refuseWhileWaiting_23 : decode cX5_refuseWhileWaiting 23 = .ok (.invokespecial 66, 3) := by decide +kernel
theorem dX5_refuseWhileWaiting_26 : decode cX5_refuseWhileWaiting 26 = .ok (.athrow, 1) := by decide +kernel
theorem dX5_refuseWhileWaiting_27 : decode cX5_refuseWhileWaiting 27 = .ok (.return_, 1) := by decide +kernel
theorem dX5_beginBlock_0 : decode cX5_beginBlock 0 = .ok (.aload_n 0, 1) := by decide +kernel
theorem dX5_beginBlock_1 : decode cX5_beginBlock 1 = .ok (.getfield 200, 3) := by decide +kernel
theorem dX5_beginBlock_4 : decode cX5_beginBlock 4 = .ok (.bipush 40, 2) := by decide +kernel
theorem dX5_beginBlock_6 : decode cX5_beginBlock 6 = .ok (.if_icmp .lt 14, 3) := by decide +kernel
theorem dX5_beginBlock_9 : decode cX5_beginBlock 9 = .ok (.new 62, 3) := by decide +kernel
theorem dX5_beginBlock_12 : decode cX5_beginBlock 12 = .ok (.dup, 1) := by decide +kernel
theorem dX5_beginBlock_13 : decode cX5_beginBlock 13 = .ok (.ldc_w 301, 3) := by decide +kernel
theorem dX5_beginBlock_16 : decode cX5_beginBlock 16 = .ok (.invokespecial 66, 3) := by decide +kernel
theorem dX5_beginBlock_19 : decode cX5_beginBlock 19 = .ok (.athrow, 1) := by decide +kernel
theorem dX5_beginBlock_20 : decode cX5_beginBlock 20 = .ok (.aload_n 0, 1) := by decide +kernel
theorem dX5_beginBlock_21 : decode cX5_beginBlock 21 = .ok (.getfield 24, 3) := by decide +kernel
theorem dX5_beginBlock_24 : decode cX5_beginBlock 24 = .ok (.aload_n 0, 1) := by decide +kernel
theorem dX5_beginBlock_25 : decode cX5_beginBlock 25 = .ok (.getfield 200, 3) := by decide +kernel
theorem dX5_beginBlock_28 : decode cX5_beginBlock 28 = .ok (.aaload, 1) := by decide +kernel
theorem dX5_beginBlock_29 : decode cX5_beginBlock 29 = .ok (.iload_n 1, 1) := by decide +kernel
theorem dX5_beginBlock_30 : decode cX5_beginBlock 30 = .ok (.aload_n 2, 1) := by decide +kernel
theorem dX5_beginBlock_31 : decode cX5_beginBlock 31 = .ok (.invokevirtual 303, 3) := by decide +kernel
theorem dX5_beginBlock_34 : decode cX5_beginBlock 34 = .ok (.aload_n 0, 1) := by decide +kernel
theorem dX5_beginBlock_35 : decode cX5_beginBlock 35 = .ok (.dup, 1) := by decide +kernel
theorem dX5_beginBlock_36 : decode cX5_beginBlock 36 = .ok (.getfield 200, 3) := by decide +kernel
theorem dX5_beginBlock_39 : decode cX5_beginBlock 39 = .ok (.iconst 1, 1) := by decide +kernel
theorem dX5_beginBlock_40 : decode cX5_beginBlock 40 = .ok (.iadd, 1) := by decide +kernel
theorem dX5_beginBlock_41 : decode cX5_beginBlock 41 = .ok (.putfield 200, 3) := by decide +kernel
theorem dX5_beginBlock_44 : decode cX5_beginBlock 44 = .ok (.aload_n 0, 1) := by decide +kernel
theorem dX5_beginBlock_45 : decode cX5_beginBlock 45 = .ok (.getfield 200, 3) := by decide +kernel
theorem dX5_beginBlock_48 : decode cX5_beginBlock 48 = .ok (.ireturn, 1) := by decide +kernel
theorem dX5_now_0 : decode cX5_now 0 = .ok (.aload_n 0, 1) := by decide +kernel
theorem dX5_now_1 : decode cX5_now 1 = .ok (.invokevirtual 145, 3) := by decide +kernel
theorem dX5_now_4 : decode cX5_now 4 = .ok (.aload_n 0, 1) := by decide +kernel
theorem dX5_now_5 : decode cX5_now 5 = .ok (.iconst 1, 1) := by decide +kernel
theorem dX5_now_6 : decode cX5_now 6 = .ok (.aload_n 0, 1) := by decide +kernel
theorem dX5_now_7 : decode cX5_now 7 = .ok (.getfield 43, 3) := by decide +kernel
theorem dX5_now_10 : decode cX5_now 10 = .ok (.invokevirtual 148, 3) := by decide +kernel
theorem dX5_now_13 : decode cX5_now 13 = .ok (.ireturn, 1) := by decide +kernel
theorem dX5_init_0 : decode cX5_init 0 = .ok (.aload_n 0, 1) := by decide +kernel
theorem dX5_init_1 : decode cX5_init 1 = .ok (.invokespecial 1, 3) := by decide +kernel
theorem dX5_init_4 : decode cX5_init 4 = .ok (.aload_n 0, 1) := by decide +kernel
theorem dX5_init_5 : decode cX5_init 5 = .ok (.sipush 1000, 3) := by decide +kernel
theorem dX5_init_8 : decode cX5_init 8 = .ok (.anewarray 9, 3) := by decide +kernel
theorem dX5_init_11 : decode cX5_init 11 = .ok (.putfield 11, 3) := by decide +kernel
theorem dX5_init_14 : decode cX5_init 14 = .ok (.aload_n 0, 1) := by decide +kernel
theorem dX5_init_15 : decode cX5_init 15 = .ok (.bipush 30, 2) := by decide +kernel
theorem dX5_init_17 : decode cX5_init 17 = .ok (.newarray .int, 2) := by decide +kernel
theorem dX5_init_19 : decode cX5_init 19 = .ok (.putfield 15, 3) := by decide +kernel
theorem dX5_init_22 : decode cX5_init 22 = .ok (.aload_n 0, 1) := by decide +kernel
theorem dX5_init_23 : decode cX5_init 23 = .ok (.bipush 30, 2) := by decide +kernel
theorem dX5_init_25 : decode cX5_init 25 = .ok (.anewarray 9, 3) := by decide +kernel
theorem dX5_init_28 : decode cX5_init 28 = .ok (.putfield 19, 3) := by decide +kernel
theorem dX5_init_31 : decode cX5_init 31 = .ok (.aload_n 0, 1) := by decide +kernel
theorem dX5_init_32 : decode cX5_init 32 = .ok (.bipush 40, 2) := by decide +kernel
theorem dX5_init_34 : decode cX5_init 34 = .ok (.anewarray 22, 3) := by decide +kernel
theorem dX5_init_37 : decode cX5_init 37 = .ok (.putfield 24, 3) := by decide +kernel
theorem dX5_init_40 : decode cX5_init 40 = .ok (.iconst 0, 1) := by decide +kernel
theorem dX5_init_41 : decode cX5_init 41 = .ok (.istore_n 1, 1) := by decide +kernel
theorem dX5_init_42 : decode cX5_init 42 = .ok (.iload_n 1, 1) := by decide +kernel
theorem dX5_init_43 : decode cX5_init 43 = .ok (.bipush 40, 2) := by decide +kernel
theorem dX5_init_45 : decode cX5_init 45 = .ok (.if_icmp .ge 22, 3) := by decide +kernel
theorem dX5_init_48 : decode cX5_init 48 = .ok (.aload_n 0, 1) := by decide +kernel
theorem dX5_init_49 : decode cX5_init 49 = .ok (.getfield 24, 3) := by decide +kernel
theorem dX5_init_52 : decode cX5_init 52 = .ok (.iload_n 1, 1) := by decide +kernel
theorem dX5_init_53 : decode cX5_init 53 = .ok (.new 22, 3) := by decide +kernel
theorem dX5_init_56 : decode cX5_init 56 = .ok (.dup, 1) := by decide +kernel
theorem dX5_init_57 : decode cX5_init 57 = .ok (.invokespecial 28, 3) := by decide +kernel
theorem dX5_init_60 : decode cX5_init 60 = .ok (.aastore, 1) := by decide +kernel
theorem dX5_init_61 : decode cX5_init 61 = .ok (.iinc 1 1, 3) := by decide +kernel
theorem dX5_init_64 : decode cX5_init 64 = .ok (.goto (-22), 3) := by decide +kernel
theorem dX5_init_67 : decode cX5_init 67 = .ok (.aload_n 0, 1) := by decide +kernel
theorem dX5_init_68 : decode cX5_init 68 = .ok (.new 29, 3) := by decide +kernel
theorem dX5_init_71 : decode cX5_init 71 = .ok (.dup, 1) := by decide +kernel
theorem dX5_init_72 : decode cX5_init 72 = .ok (.invokespecial 31, 3) := by decide +kernel
theorem dX5_init_75 : decode cX5_init 75 = .ok (.putfield 32, 3) := by decide +kernel
theorem dX5_init_78 : decode cX5_init 78 = .ok (.aload_n 0, 1) := by decide +kernel
theorem dX5_init_79 : decode cX5_init 79 = .ok (.new 29, 3) := by decide +kernel
theorem dX5_init_82 : decode cX5_init 82 = .ok (.dup, 1) := by decide +kernel
theorem dX5_init_83 : decode cX5_init 83 = .ok (.invokespecial 31, 3) := by decide +kernel
theorem dX5_init_86 : decode cX5_init 86 = .ok (.putfield 36, 3) := by decide +kernel
theorem dX5_init_89 : decode cX5_init 89 = .ok (.aload_n 0, 1) := by decide +kernel
theorem dX5_init_90 : decode cX5_init 90 = .ok (.aload_n 0, 1) := by decide +kernel
theorem dX5_init_91 : decode cX5_init 91 = .ok (.getfield 32, 3) := by decide +kernel
theorem dX5_init_94 : decode cX5_init 94 = .ok (.invokevirtual 39, 3) := by decide +kernel
theorem dX5_init_97 : decode cX5_init 97 = .ok (.putfield 43, 3) := by decide +kernel
theorem dX5_init_100 : decode cX5_init 100 = .ok (.aload_n 0, 1) := by decide +kernel
theorem dX5_init_101 : decode cX5_init 101 = .ok (.iconst 1, 1) := by decide +kernel
theorem dX5_init_102 : decode cX5_init 102 = .ok (.putfield 47, 3) := by decide +kernel
theorem dX5_init_105 : decode cX5_init 105 = .ok (.return_, 1) := by decide +kernel
theorem dX0_init_0 : decode cX0_init 0 = .ok (.aload_n 0, 1) := by decide +kernel
theorem dX0_init_1 : decode cX0_init 1 = .ok (.invokespecial 3, 3) := by decide +kernel
theorem dX0_init_4 : decode cX0_init 4 = .ok (.return_, 1) := by decide +kernel
