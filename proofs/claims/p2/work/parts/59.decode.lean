theorem dX6_isClosed_0 : decode cX6_isClosed 0 = .ok (.aload_n 0, 1) := by decide +kernel
theorem dX6_isClosed_1 : decode cX6_isClosed 1 = .ok (.iload_n 1, 1) := by decide +kernel
theorem dX6_isClosed_2 : decode cX6_isClosed 2 = .ok (.iconst 0, 1) := by decide +kernel
theorem dX6_isClosed_3 : decode cX6_isClosed 3 = .ok (.invokevirtual 177, 3) := by decide +kernel
theorem dX6_isClosed_6 : decode cX6_isClosed 6 = .ok (.ifCond .ne 16, 3) := by decide +kernel
theorem dX6_isClosed_9 : decode cX6_isClosed 9 = .ok (.aload_n 0, 1) := by decide +kernel
theorem dX6_isClosed_10 : decode cX6_isClosed 10 = .ok (.iload_n 1, 1) := by decide +kernel
theorem dX6_isClosed_11 : decode cX6_isClosed 11 = .ok (.iconst 1, 1) := by decide +kernel
theorem dX6_isClosed_12 : decode cX6_isClosed 12 = .ok (.invokevirtual 177, 3) := by decide +kernel
theorem dX6_isClosed_15 : decode cX6_isClosed 15 = .ok (.ifCond .ne 7, 3) := by decide +kernel
theorem dX6_isClosed_18 : decode cX6_isClosed 18 = .ok (.iconst 1, 1) := by decide +kernel
theorem dX6_isClosed_19 : decode cX6_isClosed 19 = .ok (.goto 4, 3) := by decide +kernel
theorem dX6_isClosed_22 : decode cX6_isClosed 22 = .ok (.iconst 0, 1) := by decide +kernel
theorem dX6_isClosed_23 : decode cX6_isClosed 23 = .ok (.ireturn, 1) := by decide +kernel
theorem dX6_closed_0 : decode cX6_closed 0 = .ok (.aload_n 0, 1) := by decide +kernel
theorem dX6_closed_1 : decode cX6_closed 1 = .ok (.iload_n 1, 1) := by decide +kernel
theorem dX6_closed_2 : decode cX6_closed 2 = .ok (.invokevirtual 215, 3) := by decide +kernel
theorem dX6_closed_5 : decode cX6_closed 5 = .ok (.istore_n 2, 1) := by decide +kernel
theorem dX6_closed_6 : decode cX6_closed 6 = .ok (.iload_n 2, 1) := by decide +kernel
theorem dX6_closed_7 : decode cX6_closed 7 = .ok (.ifCond .le 15, 3) := by decide +kernel
theorem dX6_closed_10 : decode cX6_closed 10 = .ok (.aload_n 0, 1) := by decide +kernel
theorem dX6_closed_11 : decode cX6_closed 11 = .ok (.iload_n 2, 1) := by decide +kernel
theorem dX6_closed_12 : decode cX6_closed 12 = .ok (.invokevirtual 218, 3) := by decide +kernel
theorem dX6_closed_15 : decode cX6_closed 15 = .ok (.ifCond .eq 7, 3) := by decide +kernel
theorem dX6_closed_18 : decode cX6_closed 18 = .ok (.iload_n 2, 1) := by decide +kernel
theorem dX6_closed_19 : decode cX6_closed 19 = .ok (.goto 4, 3) := by decide +kernel
theorem dX6_closed_22 : decode cX6_closed 22 = .ok (.iconst 0, 1) := by decide +kernel
theorem dX6_closed_23 : decode cX6_closed 23 = .ok (.ireturn, 1) := by decide +kernel
theorem dX6_isOpen_0 : decode cX6_isOpen 0 = .ok (.aload_n 0, 1) := by decide +kernel
theorem dX6_isOpen_1 : decode cX6_isOpen 1 = .ok (.getfield 187, 3) := by decide +kernel
theorem dX6_isOpen_4 : decode cX6_isOpen 4 = .ok (.ifCond .le 21, 3) := by decide +kernel
theorem dX6_isOpen_7 : decode cX6_isOpen 7 = .ok (.aload_n 0, 1) := by decide +kernel
theorem dX6_isOpen_8 : decode cX6_isOpen 8 = .ok (.getfield 67, 3) := by decide +kernel
theorem dX6_isOpen_11 : decode cX6_isOpen 11 = .ok (.aload_n 0, 1) := by decide +kernel
theorem dX6_isOpen_12 : decode cX6_isOpen 12 = .ok (.getfield 187, 3) := by decide +kernel
theorem dX6_isOpen_15 : decode cX6_isOpen 15 = .ok (.iconst 1, 1) := by decide +kernel
theorem dX6_isOpen_16 : decode cX6_isOpen 16 = .ok (.isub, 1) := by decide +kernel
theorem dX6_isOpen_17 : decode cX6_isOpen 17 = .ok (.baload, 1) := by decide +kernel
theorem dX6_isOpen_18 : decode cX6_isOpen 18 = .ok (.ifCond .ne 7, 3) := by decide +kernel
theorem dX6_isOpen_21 : decode cX6_isOpen 21 = .ok (.iconst 1, 1) := by decide +kernel
theorem dX6_isOpen_22 : decode cX6_isOpen 22 = .ok (.goto 4, 3) := by decide +kernel
theorem dX6_isOpen_25 : decode cX6_isOpen 25 = .ok (.iconst 0, 1) := by decide +kernel
theorem dX6_isOpen_26 : decode cX6_isOpen 26 = .ok (.ireturn, 1) := by decide +kernel
theorem dX6_gives_0 : decode cX6_gives 0 = .ok (.aload_n 0, 1) := by decide +kernel
theorem dX6_gives_1 : decode cX6_gives 1 = .ok (.getfield 205, 3) := by decide +kernel
theorem dX6_gives_4 : decode cX6_gives 4 = .ok (.sipush 1000, 3) := by decide +kernel
theorem dX6_gives_7 : decode cX6_gives 7 = .ok (.if_icmp .eq 14, 3) := by decide +kernel
theorem dX6_gives_10 : decode cX6_gives 10 = .ok (.aload_n 0, 1) := by decide +kernel
theorem dX6_gives_11 : decode cX6_gives 11 = .ok (.getfield 22, 3) := by decide +kernel
theorem dX6_gives_14 : decode cX6_gives 14 = .ok (.iload_n 1, 1) := by decide +kernel
theorem dX6_gives_15 : decode cX6_gives 15 = .ok (.iaload, 1) := by decide +kernel
theorem dX6_gives_16 : decode cX6_gives 16 = .ok (.bipush 100, 2) := by decide +kernel
theorem dX6_gives_18 : decode cX6_gives 18 = .ok (.if_icmp .le 9, 3) := by decide +kernel
theorem dX6_gives_21 : decode cX6_gives 21 = .ok (.aload_n 0, 1) := by decide +kernel
theorem dX6_gives_22 : decode cX6_gives 22 = .ok (.iload_n 2, 1) := by decide +kernel
theorem dX6_gives_23 : decode cX6_gives 23 = .ok (.invokevirtual 208, 3) := by decide +kernel
theorem dX6_gives_26 : decode cX6_gives 26 = .ok (.ireturn, 1) := by decide +kernel
theorem dX6_gives_27 : decode cX6_gives 27 = .ok (.aload_n 0, 1) := by decide +kernel
theorem dX6_gives_28 : decode cX6_gives 28 = .ok (.getfield 90, 3) := by decide +kernel
theorem dX6_gives_31 : decode cX6_gives 31 = .ok (.aload_n 0, 1) := by decide +kernel
theorem dX6_gives_32 : decode cX6_gives 32 = .ok (.getfield 205, 3) := by decide +kernel
theorem dX6_gives_35 : decode cX6_gives 35 = .ok (.iload_n 1, 1) := by decide +kernel
theorem dX6_gives_36 : decode cX6_gives 36 = .ok (.iastore, 1) := by decide +kernel
theorem dX6_gives_37 : decode cX6_gives 37 = .ok (.aload_n 0, 1) := by decide +kernel
theorem dX6_gives_38 : decode cX6_gives 38 = .ok (.dup, 1) := by decide +kernel
theorem dX6_gives_39 : decode cX6_gives 39 = .ok (.getfield 205, 3) := by decide +kernel
theorem dX6_gives_42 : decode cX6_gives 42 = .ok (.dup_x1, 1) := by decide +kernel
theorem dX6_gives_43 : decode cX6_gives 43 = .ok (.iconst 1, 1) := by decide +kernel
theorem dX6_gives_44 : decode cX6_gives 44 = .ok (.iadd, 1) := by decide +kernel
theorem dX6_gives_45 : decode cX6_gives 45 = .ok (.putfield 205, 3) := by decide +kernel
theorem dX6_gives_48 : decode cX6_gives 48 = .ok (.ireturn, 1) := by decide +kernel
theorem dX6_begins_0 : decode cX6_begins 0 = .ok (.aload_n 0, 1) := by decide +kernel
theorem dX6_begins_1 : decode cX6_begins 1 = .ok (.getfield 52, 3) := by decide +kernel
theorem dX6_begins_4 : decode cX6_begins 4 = .ok (.aload_n 0, 1) := by decide +kernel
theorem dX6_begins_5 : decode cX6_begins 5 = .ok (.getfield 187, 3) := by decide +kernel
theorem dX6_begins_8 : decode cX6_begins 8 = .ok (.iload_n 1, 1) := by decide +kernel
theorem dX6_begins_9 : decode cX6_begins 9 = .ok (.iastore, 1) := by decide +kernel
theorem dX6_begins_10 : decode cX6_begins 10 = .ok (.aload_n 0, 1) := by decide +kernel
theorem dX6_begins_11 : decode cX6_begins 11 = .ok (.getfield 55, 3) := by decide +kernel
theorem dX6_begins_14 : decode cX6_begins 14 = .ok (.aload_n 0, 1) := by decide +kernel
theorem dX6_begins_15 : decode cX6_begins 15 = .ok (.getfield 187, 3) := by decide +kernel
theorem dX6_begins_18 : decode cX6_begins 18 = .ok (.iload_n 2, 1) := by decide +kernel
theorem dX6_begins_19 : decode cX6_begins 19 = .ok (.iastore, 1) := by decide +kernel
theorem dX6_begins_20 : decode cX6_begins 20 = .ok (.aload_n 0, 1) := by decide +kernel
theorem dX6_begins_21 : decode cX6_begins 21 = .ok (.getfield 67, 3) := by decide +kernel
theorem dX6_begins_24 : decode cX6_begins 24 = .ok (.aload_n 0, 1) := by decide +kernel
theorem dX6_begins_25 : decode cX6_begins 25 = .ok (.getfield 187, 3) := by decide +kernel
theorem dX6_begins_28 : decode cX6_begins 28 = .ok (.iconst 0, 1) := by decide +kernel
theorem dX6_begins_29 : decode cX6_begins 29 = .ok (.bastore, 1) := by decide +kernel
theorem dX6_begins_30 : decode cX6_begins 30 = .ok (.aload_n 0, 1) := by decide +kernel
theorem dX6_begins_31 : decode cX6_begins 31 = .ok (.getfield 61, 3) := by decide +kernel
theorem dX6_begins_34 : decode cX6_begins 34 = .ok (.aload_n 0, 1) := by decide +kernel
theorem dX6_begins_35 : decode cX6_begins 35 = .ok (.getfield 187, 3) := by decide +kernel
theorem dX6_begins_38 : decode cX6_begins 38 = .ok (.aload_n 0, 1) := by decide +kernel
theorem dX6_begins_39 : decode cX6_begins 39 = .ok (.getfield 190, 3) := by decide +kernel
theorem dX6_begins_42 : decode cX6_begins 42 = .ok (.iastore, 1) := by decide +kernel
theorem dX6_begins_43 : decode cX6_begins 43 = .ok (.aload_n 0, 1) := by decide +kernel
theorem dX6_begins_44 : decode cX6_begins 44 = .ok (.dup, 1) := by decide +kernel
theorem dX6_begins_45 : decode cX6_begins 45 = .ok (.getfield 187, 3) := by decide +kernel
theorem dX6_begins_48 : decode cX6_begins 48 = .ok (.iconst 1, 1) := by decide +kernel
theorem dX6_begins_49 : decode cX6_begins 49 = .ok (.iadd, 1) := by decide +kernel
theorem dX6_begins_50 : decode cX6_begins 50 = .ok (.putfield 187, 3) := by decide +kernel
theorem dX6_begins_53 : decode cX6_begins 53 = .ok (.aload_n 0, 1) := by decide +kernel
theorem dX6_begins_54 : decode cX6_begins 54 = .ok (.getfield 187, 3) := by decide +kernel
theorem dX6_begins_57 : decode cX6_begins 57 = .ok (.ireturn, 1) := by decide +kernel
theorem dX6_predicate_0 : decode cX6_predicate 0 = .ok (.aload_n 0, 1) := by decide +kernel
theorem dX6_predicate_1 : decode cX6_predicate 1 = .ok (.iconst 0, 1) := by decide +kernel
theorem dX6_predicate_2 : decode cX6_predicate 2 = .ok (.putfield 93, 3) := by decide +kernel
theorem dX6_predicate_5 : decode cX6_predicate 5 = .ok (.iload_n 1, 1) := by decide +kernel
theorem dX6_predicate_6 : decode cX6_predicate 6 = .ok (.ifCond .lt 8, 3) := by decide +kernel
theorem dX6_predicate_9 : decode cX6_predicate 9 = .ok (.iload_n 1, 1) := by decide +kernel
theorem dX6_predicate_10 : decode cX6_predicate 10 = .ok (.iconst 2, 1) := by decide +kernel
theorem dX6_predicate_11 : decode cX6_predicate 11 = .ok (.if_icmp .le 9, 3) := by decide +kernel
theorem dX6_predicate_14 : decode cX6_predicate 14 = .ok (.aload_n 0, 1) := by decide +kernel
theorem dX6_predicate_15 : decode cX6_predicate 15 = .ok (.iconst 1, 1) := by decide +kernel
theorem dX6_predicate_16 : decode cX6_predicate 16 = .ok (.invokevirtual 208, 3) := by decide +kernel
theorem dX6_predicate_19 : decode cX6_predicate 19 = .ok (.ireturn, 1) := by decide +kernel
theorem dX6_predicate_20 : decode cX6_predicate 20 = .ok (.aload_n 0, 1) := by decide +kernel
theorem dX6_predicate_21 : decode cX6_predicate 21 = .ok (.getfield 221, 3) := by decide +kernel
theorem dX6_predicate_24 : decode cX6_predicate 24 = .ok (.bipush 30, 2) := by decide +kernel
theorem dX6_predicate_26 : decode cX6_predicate 26 = .ok (.if_icmp .ne 9, 3) := by decide +kernel
theorem dX6_predicate_29 : decode cX6_predicate 29 = .ok (.aload_n 0, 1) := by decide +kernel
theorem dX6_predicate_30 : decode cX6_predicate 30 = .ok (.iconst 2, 1) := by decide +kernel
theorem dX6_predicate_31 : decode cX6_predicate 31 = .ok (.invokevirtual 208, 3) := by decide +kernel
theorem dX6_predicate_34 : decode cX6_predicate 34 = .ok (.ireturn, 1) := by decide +kernel
theorem dX6_predicate_35 : decode cX6_predicate 35 = .ok (.aload_n 0, 1) := by decide +kernel
theorem dX6_predicate_36 : decode cX6_predicate 36 = .ok (.getfield 46, 3) := by decide +kernel
theorem dX6_predicate_39 : decode cX6_predicate 39 = .ok (.aload_n 0, 1) := by decide +kernel
theorem dX6_predicate_40 : decode cX6_predicate 40 = .ok (.getfield 221, 3) := by decide +kernel
theorem dX6_predicate_43 : decode cX6_predicate 43 = .ok (.iload_n 1, 1) := by decide +kernel
theorem dX6_predicate_44 : decode cX6_predicate 44 = .ok (.iastore, 1) := by decide +kernel
theorem dX6_predicate_45 : decode cX6_predicate 45 = .ok (.aload_n 0, 1) := by decide +kernel
theorem dX6_predicate_46 : decode cX6_predicate 46 = .ok (.dup, 1) := by decide +kernel
theorem dX6_predicate_47 : decode cX6_predicate 47 = .ok (.getfield 221, 3) := by decide +kernel
theorem dX6_predicate_50 : decode cX6_predicate 50 = .ok (.dup_x1, 1) := by decide +kernel
theorem dX6_predicate_51 : decode cX6_predicate 51 = .ok (.iconst 1, 1) := by decide +kernel
theorem dX6_predicate_52 : decode cX6_predicate 52 = .ok (.iadd, 1) := by decide +kernel
theorem dX6_predicate_53 : decode cX6_predicate 53 = .ok (.putfield 221, 3) := by decide +kernel
theorem dX6_predicate_56 : decode cX6_predicate 56 = .ok (.ireturn, 1) := by decide +kernel
