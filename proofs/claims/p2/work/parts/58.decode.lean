theorem dX6_fails_0 : decode cX6_fails 0 = .ok (.aload_n 0, 1) := by decide +kernel
theorem dX6_fails_1 : decode cX6_fails 1 = .ok (.iload_n 1, 1) := by decide +kernel
theorem dX6_fails_2 : decode cX6_fails 2 = .ok (.putfield 93, 3) := by decide +kernel
theorem dX6_fails_5 : decode cX6_fails 5 = .ok (.iconst 0, 1) := by decide +kernel
theorem dX6_fails_6 : decode cX6_fails 6 = .ok (.ireturn, 1) := by decide +kernel
theorem dX6_isForm_0 : decode cX6_isForm 0 = .ok (.iload_n 1, 1) := by decide +kernel
theorem dX6_isForm_1 : decode cX6_isForm 1 = .ok (.ifCond .lt 15, 3) := by decide +kernel
theorem dX6_isForm_4 : decode cX6_isForm 4 = .ok (.iload_n 1, 1) := by decide +kernel
theorem dX6_isForm_5 : decode cX6_isForm 5 = .ok (.aload_n 0, 1) := by decide +kernel
theorem dX6_isForm_6 : decode cX6_isForm 6 = .ok (.getfield 205, 3) := by decide +kernel
theorem dX6_isForm_9 : decode cX6_isForm 9 = .ok (.if_icmp .ge 7, 3) := by decide +kernel
theorem dX6_isForm_12 : decode cX6_isForm 12 = .ok (.iconst 1, 1) := by decide +kernel
theorem dX6_isForm_13 : decode cX6_isForm 13 = .ok (.goto 4, 3) := by decide +kernel
theorem dX6_isForm_16 : decode cX6_isForm 16 = .ok (.iconst 0, 1) := by decide +kernel
theorem dX6_isForm_17 : decode cX6_isForm 17 = .ok (.ireturn, 1) := by decide +kernel
theorem dX6_term_0 : decode cX6_term 0 = .ok (.aload_n 0, 1) := by decide +kernel
theorem dX6_term_1 : decode cX6_term 1 = .ok (.iload_n 1, 1) := by decide +kernel
theorem dX6_term_2 : decode cX6_term 2 = .ok (.invokevirtual 211, 3) := by decide +kernel
theorem dX6_term_5 : decode cX6_term 5 = .ok (.ifCond .eq 27, 3) := by decide +kernel
theorem dX6_term_8 : decode cX6_term 8 = .ok (.aload_n 0, 1) := by decide +kernel
theorem dX6_term_9 : decode cX6_term 9 = .ok (.getfield 7, 3) := by decide +kernel
theorem dX6_term_12 : decode cX6_term 12 = .ok (.aload_n 0, 1) := by decide +kernel
theorem dX6_term_13 : decode cX6_term 13 = .ok (.getfield 90, 3) := by decide +kernel
theorem dX6_term_16 : decode cX6_term 16 = .ok (.iload_n 1, 1) := by decide +kernel
theorem dX6_term_17 : decode cX6_term 17 = .ok (.iaload, 1) := by decide +kernel
theorem dX6_term_18 : decode cX6_term 18 = .ok (.iaload, 1) := by decide +kernel
theorem dX6_term_19 : decode cX6_term 19 = .ok (.iconst 2, 1) := by decide +kernel
theorem dX6_term_20 : decode cX6_term 20 = .ok (.if_icmp .ge 12, 3) := by decide +kernel
theorem dX6_term_23 : decode cX6_term 23 = .ok (.aload_n 0, 1) := by decide +kernel
theorem dX6_term_24 : decode cX6_term 24 = .ok (.getfield 90, 3) := by decide +kernel
theorem dX6_term_27 : decode cX6_term 27 = .ok (.iload_n 1, 1) := by decide +kernel
theorem dX6_term_28 : decode cX6_term 28 = .ok (.iaload, 1) := by decide +kernel
theorem dX6_term_29 : decode cX6_term 29 = .ok (.goto 4, 3) := by decide +kernel
theorem dX6_term_32 : decode cX6_term 32 = .ok (.iconst 0, 1) := by decide +kernel
theorem dX6_term_33 : decode cX6_term 33 = .ok (.ireturn, 1) := by decide +kernel
theorem dX6_formula_0 : decode cX6_formula 0 = .ok (.aload_n 0, 1) := by decide +kernel
theorem dX6_formula_1 : decode cX6_formula 1 = .ok (.iload_n 1, 1) := by decide +kernel
theorem dX6_formula_2 : decode cX6_formula 2 = .ok (.invokevirtual 211, 3) := by decide +kernel
theorem dX6_formula_5 : decode cX6_formula 5 = .ok (.ifCond .eq 41, 3) := by decide +kernel
theorem dX6_formula_8 : decode cX6_formula 8 = .ok (.aload_n 0, 1) := by decide +kernel
theorem dX6_formula_9 : decode cX6_formula 9 = .ok (.getfield 7, 3) := by decide +kernel
theorem dX6_formula_12 : decode cX6_formula 12 = .ok (.aload_n 0, 1) := by decide +kernel
theorem dX6_formula_13 : decode cX6_formula 13 = .ok (.getfield 90, 3) := by decide +kernel
theorem dX6_formula_16 : decode cX6_formula 16 = .ok (.iload_n 1, 1) := by decide +kernel
theorem dX6_formula_17 : decode cX6_formula 17 = .ok (.iaload, 1) := by decide +kernel
theorem dX6_formula_18 : decode cX6_formula 18 = .ok (.iaload, 1) := by decide +kernel
theorem dX6_formula_19 : decode cX6_formula 19 = .ok (.iconst 2, 1) := by decide +kernel
theorem dX6_formula_20 : decode cX6_formula 20 = .ok (.if_icmp .le 26, 3) := by decide +kernel
theorem dX6_formula_23 : decode cX6_formula 23 = .ok (.aload_n 0, 1) := by decide +kernel
theorem dX6_formula_24 : decode cX6_formula 24 = .ok (.getfield 25, 3) := by decide +kernel
theorem dX6_formula_27 : decode cX6_formula 27 = .ok (.aload_n 0, 1) := by decide +kernel
theorem dX6_formula_28 : decode cX6_formula 28 = .ok (.getfield 90, 3) := by decide +kernel
theorem dX6_formula_31 : decode cX6_formula 31 = .ok (.iload_n 1, 1) := by decide +kernel
theorem dX6_formula_32 : decode cX6_formula 32 = .ok (.iaload, 1) := by decide +kernel
theorem dX6_formula_33 : decode cX6_formula 33 = .ok (.iaload, 1) := by decide +kernel
theorem dX6_formula_34 : decode cX6_formula 34 = .ok (.ifCond .ne 12, 3) := by decide +kernel
theorem dX6_formula_37 : decode cX6_formula 37 = .ok (.aload_n 0, 1) := by decide +kernel
theorem dX6_formula_38 : decode cX6_formula 38 = .ok (.getfield 90, 3) := by decide +kernel
theorem dX6_formula_41 : decode cX6_formula 41 = .ok (.iload_n 1, 1) := by decide +kernel
theorem dX6_formula_42 : decode cX6_formula 42 = .ok (.iaload, 1) := by decide +kernel
theorem dX6_formula_43 : decode cX6_formula 43 = .ok (.goto 4, 3) := by decide +kernel
theorem dX6_formula_46 : decode cX6_formula 46 = .ok (.iconst 0, 1) := by decide +kernel
theorem dX6_formula_47 : decode cX6_formula 47 = .ok (.ireturn, 1) := by decide +kernel
theorem dX6_constantOf_0 : decode cX6_constantOf 0 = .ok (.aload_n 0, 1) := by decide +kernel
theorem dX6_constantOf_1 : decode cX6_constantOf 1 = .ok (.iload_n 1, 1) := by decide +kernel
theorem dX6_constantOf_2 : decode cX6_constantOf 2 = .ok (.invokevirtual 211, 3) := by decide +kernel
theorem dX6_constantOf_5 : decode cX6_constantOf 5 = .ok (.ifCond .eq 26, 3) := by decide +kernel
theorem dX6_constantOf_8 : decode cX6_constantOf 8 = .ok (.aload_n 0, 1) := by decide +kernel
theorem dX6_constantOf_9 : decode cX6_constantOf 9 = .ok (.getfield 7, 3) := by decide +kernel
theorem dX6_constantOf_12 : decode cX6_constantOf 12 = .ok (.aload_n 0, 1) := by decide +kernel
theorem dX6_constantOf_13 : decode cX6_constantOf 13 = .ok (.getfield 90, 3) := by decide +kernel
theorem dX6_constantOf_16 : decode cX6_constantOf 16 = .ok (.iload_n 1, 1) := by decide +kernel
theorem dX6_constantOf_17 : decode cX6_constantOf 17 = .ok (.iaload, 1) := by decide +kernel
theorem dX6_constantOf_18 : decode cX6_constantOf 18 = .ok (.iaload, 1) := by decide +kernel
theorem dX6_constantOf_19 : decode cX6_constantOf 19 = .ok (.ifCond .ne 12, 3) := by decide +kernel
theorem dX6_constantOf_22 : decode cX6_constantOf 22 = .ok (.aload_n 0, 1) := by decide +kernel
theorem dX6_constantOf_23 : decode cX6_constantOf 23 = .ok (.getfield 90, 3) := by decide +kernel
theorem dX6_constantOf_26 : decode cX6_constantOf 26 = .ok (.iload_n 1, 1) := by decide +kernel
theorem dX6_constantOf_27 : decode cX6_constantOf 27 = .ok (.iaload, 1) := by decide +kernel
theorem dX6_constantOf_28 : decode cX6_constantOf 28 = .ok (.goto 4, 3) := by decide +kernel
theorem dX6_constantOf_31 : decode cX6_constantOf 31 = .ok (.iconst 0, 1) := by decide +kernel
theorem dX6_constantOf_32 : decode cX6_constantOf 32 = .ok (.ireturn, 1) := by decide +kernel
