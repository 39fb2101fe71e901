theorem dL_define_0 : decode cL_define 0 = .ok (.aload_n 3, 1) := by decide +kernel
theorem dL_define_1 : decode cL_define 1 = .ok (.iconst 0, 1) := by decide +kernel
theorem dL_define_2 : decode cL_define 2 = .ok (.aload_n 0, 1) := by decide +kernel
theorem dL_define_3 : decode cL_define 3 = .ok (.iload_n 1, 1) := by decide +kernel
theorem dL_define_4 : decode cL_define 4 = .ok (.iload_n 2, 1) := by decide +kernel
theorem dL_define_5 : decode cL_define 5 = .ok (.invokevirtual 17, 3) := by decide +kernel
theorem dL_define_8 : decode cL_define 8 = .ok (.ifCond .eq 7, 3) := by decide +kernel
theorem dL_define_11 : decode cL_define 11 = .ok (.lconst 1, 1) := by decide +kernel
theorem dL_define_12 : decode cL_define 12 = .ok (.goto 4, 3) := by decide +kernel
theorem dL_define_15 : decode cL_define 15 = .ok (.lconst 0, 1) := by decide +kernel
theorem dL_define_16 : decode cL_define 16 = .ok (.lastore, 1) := by decide +kernel
theorem dL_define_17 : decode cL_define 17 = .ok (.goto 7, 3) := by decide +kernel
theorem dL_define_20 : decode cL_define 20 = .ok (.astore 4, 2) := by decide +kernel
theorem dL_define_22 : decode cL_define 22 = .ok (.iconst 1, 1) := by decide +kernel
theorem dL_define_23 : decode cL_define 23 = .ok (.ireturn, 1) := by decide +kernel
theorem dL_define_24 : decode cL_define 24 = .ok (.iconst 0, 1) := by decide +kernel
theorem dL_define_25 : decode cL_define 25 = .ok (.ireturn, 1) := by decide +kernel
theorem dL_constant_0 : decode cL_constant 0 = .ok (.aload_n 1, 1) := by decide +kernel
theorem dL_constant_1 : decode cL_constant 1 = .ok (.iconst 0, 1) := by decide +kernel
theorem dL_constant_2 : decode cL_constant 2 = .ok (.aload_n 0, 1) := by decide +kernel
theorem dL_constant_3 : decode cL_constant 3 = .ok (.invokevirtual 21, 3) := by decide +kernel
theorem dL_constant_6 : decode cL_constant 6 = .ok (.i2l, 1) := by decide +kernel
theorem dL_constant_7 : decode cL_constant 7 = .ok (.lastore, 1) := by decide +kernel
theorem dL_constant_8 : decode cL_constant 8 = .ok (.goto 6, 3) := by decide +kernel
theorem dL_constant_11 : decode cL_constant 11 = .ok (.astore_n 2, 1) := by decide +kernel
theorem dL_constant_12 : decode cL_constant 12 = .ok (.iconst 1, 1) := by decide +kernel
theorem dL_constant_13 : decode cL_constant 13 = .ok (.ireturn, 1) := by decide +kernel
theorem dL_constant_14 : decode cL_constant 14 = .ok (.iconst 0, 1) := by decide +kernel
theorem dL_constant_15 : decode cL_constant 15 = .ok (.ireturn, 1) := by decide +kernel
theorem dL_locus_0 : decode cL_locus 0 = .ok (.aload_n 2, 1) := by decide +kernel
theorem dL_locus_1 : decode cL_locus 1 = .ok (.iconst 0, 1) := by decide +kernel
theorem dL_locus_2 : decode cL_locus 2 = .ok (.aload_n 0, 1) := by decide +kernel
theorem dL_locus_3 : decode cL_locus 3 = .ok (.iload_n 1, 1) := by decide +kernel
theorem dL_locus_4 : decode cL_locus 4 = .ok (.invokevirtual 25, 3) := by decide +kernel
theorem dL_locus_7 : decode cL_locus 7 = .ok (.i2l, 1) := by decide +kernel
theorem dL_locus_8 : decode cL_locus 8 = .ok (.lastore, 1) := by decide +kernel
theorem dL_locus_9 : decode cL_locus 9 = .ok (.goto 9, 3) := by decide +kernel
theorem dL_locus_12 : decode cL_locus 12 = .ok (.astore_n 3, 1) := by decide +kernel
theorem dL_locus_13 : decode cL_locus 13 = .ok (.iconst 1, 1) := by decide +kernel
theorem dL_locus_14 : decode cL_locus 14 = .ok (.ireturn, 1) := by decide +kernel
theorem dL_locus_15 : decode cL_locus 15 = .ok (.astore_n 3, 1) := by decide +kernel
theorem dL_locus_16 : decode cL_locus 16 = .ok (.iconst 2, 1) := by decide +kernel
theorem dL_locus_17 : decode cL_locus 17 = .ok (.ireturn, 1) := by decide +kernel
theorem dL_locus_18 : decode cL_locus 18 = .ok (.iconst 0, 1) := by decide +kernel
theorem dL_locus_19 : decode cL_locus 19 = .ok (.ireturn, 1) := by decide +kernel
theorem dL_atom_0 : decode cL_atom 0 = .ok (.aload 4, 2) := by decide +kernel
theorem dL_atom_2 : decode cL_atom 2 = .ok (.iconst 0, 1) := by decide +kernel
theorem dL_atom_3 : decode cL_atom 3 = .ok (.aload_n 0, 1) := by decide +kernel
theorem dL_atom_4 : decode cL_atom 4 = .ok (.iload_n 1, 1) := by decide +kernel
theorem dL_atom_5 : decode cL_atom 5 = .ok (.iload_n 2, 1) := by decide +kernel
theorem dL_atom_6 : decode cL_atom 6 = .ok (.iload_n 3, 1) := by decide +kernel
theorem dL_atom_7 : decode cL_atom 7 = .ok (.invokevirtual 28, 3) := by decide +kernel
theorem dL_atom_10 : decode cL_atom 10 = .ok (.i2l, 1) := by decide +kernel
theorem dL_atom_11 : decode cL_atom 11 = .ok (.lastore, 1) := by decide +kernel
theorem dL_atom_12 : decode cL_atom 12 = .ok (.goto 11, 3) := by decide +kernel
theorem dL_atom_15 : decode cL_atom 15 = .ok (.astore 5, 2) := by decide +kernel
theorem dL_atom_17 : decode cL_atom 17 = .ok (.iconst 1, 1) := by decide +kernel
theorem dL_atom_18 : decode cL_atom 18 = .ok (.ireturn, 1) := by decide +kernel
theorem dL_atom_19 : decode cL_atom 19 = .ok (.astore 5, 2) := by decide +kernel
theorem dL_atom_21 : decode cL_atom 21 = .ok (.iconst 2, 1) := by decide +kernel
theorem dL_atom_22 : decode cL_atom 22 = .ok (.ireturn, 1) := by decide +kernel
theorem dL_atom_23 : decode cL_atom 23 = .ok (.iconst 0, 1) := by decide +kernel
theorem dL_atom_24 : decode cL_atom 24 = .ok (.ireturn, 1) := by decide +kernel
theorem dL_join_0 : decode cL_join 0 = .ok (.aload 4, 2) := by decide +kernel
theorem dL_join_2 : decode cL_join 2 = .ok (.iconst 0, 1) := by decide +kernel
theorem dL_join_3 : decode cL_join 3 = .ok (.aload_n 0, 1) := by decide +kernel
theorem dL_join_4 : decode cL_join 4 = .ok (.iload_n 1, 1) := by decide +kernel
theorem dL_join_5 : decode cL_join 5 = .ok (.iload_n 2, 1) := by decide +kernel
theorem dL_join_6 : decode cL_join 6 = .ok (.iload_n 3, 1) := by decide +kernel
theorem dL_join_7 : decode cL_join 7 = .ok (.invokevirtual 32, 3) := by decide +kernel
theorem dL_join_10 : decode cL_join 10 = .ok (.i2l, 1) := by decide +kernel
theorem dL_join_11 : decode cL_join 11 = .ok (.lastore, 1) := by decide +kernel
theorem dL_join_12 : decode cL_join 12 = .ok (.goto 11, 3) := by decide +kernel
theorem dL_join_15 : decode cL_join 15 = .ok (.astore 5, 2) := by decide +kernel
theorem dL_join_17 : decode cL_join 17 = .ok (.iconst 1, 1) := by decide +kernel
theorem dL_join_18 : decode cL_join 18 = .ok (.ireturn, 1) := by decide +kernel
theorem dL_join_19 : decode cL_join 19 = .ok (.astore 5, 2) := by decide +kernel
theorem dL_join_21 : decode cL_join 21 = .ok (.iconst 2, 1) := by decide +kernel
theorem dL_join_22 : decode cL_join 22 = .ok (.ireturn, 1) := by decide +kernel
theorem dL_join_23 : decode cL_join 23 = .ok (.iconst 0, 1) := by decide +kernel
theorem dL_join_24 : decode cL_join 24 = .ok (.ireturn, 1) := by decide +kernel
theorem dL_bind_0 : decode cL_bind 0 = .ok (.aload 4, 2) := by decide +kernel
theorem dL_bind_2 : decode cL_bind 2 = .ok (.iconst 0, 1) := by decide +kernel
theorem dL_bind_3 : decode cL_bind 3 = .ok (.aload_n 0, 1) := by decide +kernel
theorem dL_bind_4 : decode cL_bind 4 = .ok (.iload_n 1, 1) := by decide +kernel
theorem dL_bind_5 : decode cL_bind 5 = .ok (.iload_n 2, 1) := by decide +kernel
theorem dL_bind_6 : decode cL_bind 6 = .ok (.iload_n 3, 1) := by decide +kernel
theorem dL_bind_7 : decode cL_bind 7 = .ok (.invokevirtual 35, 3) := by decide +kernel
theorem dL_bind_10 : decode cL_bind 10 = .ok (.i2l, 1) := by decide +kernel
theorem dL_bind_11 : decode cL_bind 11 = .ok (.lastore, 1) := by decide +kernel
theorem dL_bind_12 : decode cL_bind 12 = .ok (.goto 11, 3) := by decide +kernel
theorem dL_bind_15 : decode cL_bind 15 = .ok (.astore 5, 2) := by decide +kernel
theorem dL_bind_17 : decode cL_bind 17 = .ok (.iconst 1, 1) := by decide +kernel
theorem dL_bind_18 : decode cL_bind 18 = .ok (.ireturn, 1) := by decide +kernel
theorem dL_bind_19 : decode cL_bind 19 = .ok (.astore 5, 2) := by decide +kernel
theorem dL_bind_21 : decode cL_bind 21 = .ok (.iconst 2, 1) := by decide +kernel
theorem dL_bind_22 : decode cL_bind 22 = .ok (.ireturn, 1) := by decide +kernel
theorem dL_bind_23 : decode cL_bind 23 = .ok (.iconst 0, 1) := by decide +kernel
theorem dL_bind_24 : decode cL_bind 24 = .ok (.ireturn, 1) := by decide +kernel
theorem dL_proof_0 : decode cL_proof 0 = .ok (.aload_n 2, 1) := by decide +kernel
theorem dL_proof_1 : decode cL_proof 1 = .ok (.iconst 0, 1) := by decide +kernel
theorem dL_proof_2 : decode cL_proof 2 = .ok (.aload_n 0, 1) := by decide +kernel
theorem dL_proof_3 : decode cL_proof 3 = .ok (.iload_n 1, 1) := by decide +kernel
theorem dL_proof_4 : decode cL_proof 4 = .ok (.invokevirtual 39, 3) := by decide +kernel
theorem dL_proof_7 : decode cL_proof 7 = .ok (.i2l, 1) := by decide +kernel
theorem dL_proof_8 : decode cL_proof 8 = .ok (.lastore, 1) := by decide +kernel
theorem dL_proof_9 : decode cL_proof 9 = .ok (.goto 9, 3) := by decide +kernel
theorem dL_proof_12 : decode cL_proof 12 = .ok (.astore_n 3, 1) := by decide +kernel
theorem dL_proof_13 : decode cL_proof 13 = .ok (.iconst 1, 1) := by decide +kernel
theorem dL_proof_14 : decode cL_proof 14 = .ok (.ireturn, 1) := by decide +kernel
theorem dL_proof_15 : decode cL_proof 15 = .ok (.astore_n 3, 1) := by decide +kernel
theorem dL_proof_16 : decode cL_proof 16 = .ok (.iconst 2, 1) := by decide +kernel
theorem dL_proof_17 : decode cL_proof 17 = .ok (.ireturn, 1) := by decide +kernel
theorem dL_proof_18 : decode cL_proof 18 = .ok (.iconst 0, 1) := by decide +kernel
theorem dL_proof_19 : decode cL_proof 19 = .ok (.ireturn, 1) := by decide +kernel
theorem dL_now_0 : decode cL_now 0 = .ok (.aload_n 1, 1) := by decide +kernel
theorem dL_now_1 : decode cL_now 1 = .ok (.iconst 0, 1) := by decide +kernel
theorem dL_now_2 : decode cL_now 2 = .ok (.aload_n 0, 1) := by decide +kernel
theorem dL_now_3 : decode cL_now 3 = .ok (.invokevirtual 42, 3) := by decide +kernel
theorem dL_now_6 : decode cL_now 6 = .ok (.i2l, 1) := by decide +kernel
theorem dL_now_7 : decode cL_now 7 = .ok (.lastore, 1) := by decide +kernel
theorem dL_now_8 : decode cL_now 8 = .ok (.goto 6, 3) := by decide +kernel
theorem dL_now_11 : decode cL_now 11 = .ok (.astore_n 2, 1) := by decide +kernel
theorem dL_now_12 : decode cL_now 12 = .ok (.iconst 1, 1) := by decide +kernel
theorem dL_now_13 : decode cL_now 13 = .ok (.ireturn, 1) := by decide +kernel
theorem dL_now_14 : decode cL_now 14 = .ok (.iconst 0, 1) := by decide +kernel
theorem dL_now_15 : decode cL_now 15 = .ok (.ireturn, 1) := by decide +kernel
theorem dL_let_0 : decode cL_let 0 = .ok (.aload_n 1, 1) := by decide +kernel
theorem dL_let_1 : decode cL_let 1 = .ok (.iconst 0, 1) := by decide +kernel
theorem dL_let_2 : decode cL_let 2 = .ok (.aload_n 0, 1) := by decide +kernel
theorem dL_let_3 : decode cL_let 3 = .ok (.invokevirtual 45, 3) := by decide +kernel
theorem dL_let_6 : decode cL_let 6 = .ok (.i2l, 1) := by decide +kernel
theorem dL_let_7 : decode cL_let 7 = .ok (.lastore, 1) := by decide +kernel
theorem dL_let_8 : decode cL_let 8 = .ok (.goto 6, 3) := by decide +kernel
theorem dL_let_11 : decode cL_let 11 = .ok (.astore_n 2, 1) := by decide +kernel
theorem dL_let_12 : decode cL_let 12 = .ok (.iconst 1, 1) := by decide +kernel
theorem dL_let_13 : decode cL_let 13 = .ok (.ireturn, 1) := by decide +kernel
theorem dL_let_14 : decode cL_let 14 = .ok (.iconst 0, 1) := by decide +kernel
theorem dL_let_15 : decode cL_let 15 = .ok (.ireturn, 1) := by decide +kernel
theorem dL_assume_0 : decode cL_assume 0 = .ok (.aload_n 2, 1) := by decide +kernel
theorem dL_assume_1 : decode cL_assume 1 = .ok (.iconst 0, 1) := by decide +kernel
theorem dL_assume_2 : decode cL_assume 2 = .ok (.aload_n 0, 1) := by decide +kernel
theorem dL_assume_3 : decode cL_assume 3 = .ok (.iload_n 1, 1) := by decide +kernel
theorem dL_assume_4 : decode cL_assume 4 = .ok (.invokevirtual 48, 3) := by decide +kernel
theorem dL_assume_7 : decode cL_assume 7 = .ok (.ifCond .eq 7, 3) := by decide +kernel
theorem dL_assume_10 : decode cL_assume 10 = .ok (.lconst 1, 1) := by decide +kernel
theorem dL_assume_11 : decode cL_assume 11 = .ok (.goto 4, 3) := by decide +kernel
theorem dL_assume_14 : decode cL_assume 14 = .ok (.lconst 0, 1) := by decide +kernel
theorem dL_assume_15 : decode cL_assume 15 = .ok (.lastore, 1) := by decide +kernel
theorem dL_assume_16 : decode cL_assume 16 = .ok (.goto 9, 3) := by decide +kernel
theorem dL_assume_19 : decode cL_assume 19 = .ok (.astore_n 3, 1) := by decide +kernel
theorem dL_assume_20 : decode cL_assume 20 = .ok (.iconst 1, 1) := by decide +kernel
theorem dL_assume_21 : decode cL_assume 21 = .ok (.ireturn, 1) := by decide +kernel
theorem dL_assume_22 : decode cL_assume 22 = .ok (.astore_n 3, 1) := by decide +kernel
theorem dL_assume_23 : decode cL_assume 23 = .ok (.iconst 2, 1) := by decide +kernel
theorem dL_assume_24 : decode cL_assume 24 = .ok (.ireturn, 1) := by decide +kernel
theorem dL_assume_25 : decode cL_assume 25 = .ok (.iconst 0, 1) := by decide +kernel
theorem dL_assume_26 : decode cL_assume 26 = .ok (.ireturn, 1) := by decide +kernel
theorem dL_thus_0 : decode cL_thus 0 = .ok (.aload_n 2, 1) := by decide +kernel
theorem dL_thus_1 : decode cL_thus 1 = .ok (.iconst 0, 1) := by decide +kernel
theorem dL_thus_2 : decode cL_thus 2 = .ok (.aload_n 0, 1) := by decide +kernel
theorem dL_thus_3 : decode cL_thus 3 = .ok (.iload_n 1, 1) := by decide +kernel
theorem dL_thus_4 : decode cL_thus 4 = .ok (.invokevirtual 52, 3) := by decide +kernel
theorem dL_thus_7 : decode cL_thus 7 = .ok (.ifCond .eq 7, 3) := by decide +kernel
theorem dL_thus_10 : decode cL_thus 10 = .ok (.lconst 1, 1) := by decide +kernel
theorem dL_thus_11 : decode cL_thus 11 = .ok (.goto 4, 3) := by decide +kernel
theorem dL_thus_14 : decode cL_thus 14 = .ok (.lconst 0, 1) := by decide +kernel
theorem dL_thus_15 : decode cL_thus 15 = .ok (.lastore, 1) := by decide +kernel
theorem dL_thus_16 : decode cL_thus 16 = .ok (.goto 9, 3) := by decide +kernel
theorem dL_thus_19 : decode cL_thus 19 = .ok (.astore_n 3, 1) := by decide +kernel
theorem dL_thus_20 : decode cL_thus 20 = .ok (.iconst 1, 1) := by decide +kernel
theorem dL_thus_21 : decode cL_thus 21 = .ok (.ireturn, 1) := by decide +kernel
theorem dL_thus_22 : decode cL_thus 22 = .ok (.astore_n 3, 1) := by decide +kernel
theorem dL_thus_23 : decode cL_thus 23 = .ok (.iconst 2, 1) := by decide +kernel
theorem dL_thus_24 : decode cL_thus 24 = .ok (.ireturn, 1) := by decide +kernel
theorem dL_thus_25 : decode cL_thus 25 = .ok (.iconst 0, 1) := by decide +kernel
theorem dL_thus_26 : decode cL_thus 26 = .ok (.ireturn, 1) := by decide +kernel
theorem dL_take_0 : decode cL_take 0 = .ok (.aload_n 2, 1) := by decide +kernel
theorem dL_take_1 : decode cL_take 1 = .ok (.iconst 0, 1) := by decide +kernel
theorem dL_take_2 : decode cL_take 2 = .ok (.aload_n 0, 1) := by decide +kernel
theorem dL_take_3 : decode cL_take 3 = .ok (.iload_n 1, 1) := by decide +kernel
theorem dL_take_4 : decode cL_take 4 = .ok (.invokevirtual 55, 3) := by decide +kernel
theorem dL_take_7 : decode cL_take 7 = .ok (.ifCond .eq 7, 3) := by decide +kernel
theorem dL_take_10 : decode cL_take 10 = .ok (.lconst 1, 1) := by decide +kernel
theorem dL_take_11 : decode cL_take 11 = .ok (.goto 4, 3) := by decide +kernel
theorem dL_take_14 : decode cL_take 14 = .ok (.lconst 0, 1) := by decide +kernel
theorem dL_take_15 : decode cL_take 15 = .ok (.lastore, 1) := by decide +kernel
theorem dL_take_16 : decode cL_take 16 = .ok (.goto 9, 3) := by decide +kernel
theorem dL_take_19 : decode cL_take 19 = .ok (.astore_n 3, 1) := by decide +kernel
theorem dL_take_20 : decode cL_take 20 = .ok (.iconst 1, 1) := by decide +kernel
theorem dL_take_21 : decode cL_take 21 = .ok (.ireturn, 1) := by decide +kernel
theorem dL_take_22 : decode cL_take 22 = .ok (.astore_n 3, 1) := by decide +kernel
theorem dL_take_23 : decode cL_take 23 = .ok (.iconst 2, 1) := by decide +kernel
theorem dL_take_24 : decode cL_take 24 = .ok (.ireturn, 1) := by decide +kernel
theorem dL_take_25 : decode cL_take 25 = .ok (.iconst 0, 1) := by decide +kernel
theorem dL_take_26 : decode cL_take 26 = .ok (.ireturn, 1) := by decide +kernel
theorem dL_given_0 : decode cL_given 0 = .ok (.aload_n 3, 1) := by decide +kernel
theorem dL_given_1 : decode cL_given 1 = .ok (.iconst 0, 1) := by decide +kernel
theorem dL_given_2 : decode cL_given 2 = .ok (.aload_n 0, 1) := by decide +kernel
theorem dL_given_3 : decode cL_given 3 = .ok (.iload_n 1, 1) := by decide +kernel
theorem dL_given_4 : decode cL_given 4 = .ok (.iload_n 2, 1) := by decide +kernel
theorem dL_given_5 : decode cL_given 5 = .ok (.invokevirtual 58, 3) := by decide +kernel
theorem dL_given_8 : decode cL_given 8 = .ok (.ifCond .eq 7, 3) := by decide +kernel
theorem dL_given_11 : decode cL_given 11 = .ok (.lconst 1, 1) := by decide +kernel
theorem dL_given_12 : decode cL_given 12 = .ok (.goto 4, 3) := by decide +kernel
theorem dL_given_15 : decode cL_given 15 = .ok (.lconst 0, 1) := by decide +kernel
theorem dL_given_16 : decode cL_given 16 = .ok (.lastore, 1) := by decide +kernel
theorem dL_given_17 : decode cL_given 17 = .ok (.goto 11, 3) := by decide +kernel
theorem dL_given_20 : decode cL_given 20 = .ok (.astore 4, 2) := by decide +kernel
theorem dL_given_22 : decode cL_given 22 = .ok (.iconst 1, 1) := by decide +kernel
theorem dL_given_23 : decode cL_given 23 = .ok (.ireturn, 1) := by decide +kernel
theorem dL_given_24 : decode cL_given 24 = .ok (.astore 4, 2) := by decide +kernel
theorem dL_given_26 : decode cL_given 26 = .ok (.iconst 2, 1) := by decide +kernel
theorem dL_given_27 : decode cL_given 27 = .ok (.ireturn, 1) := by decide +kernel
theorem dL_given_28 : decode cL_given 28 = .ok (.iconst 0, 1) := by decide +kernel
theorem dL_given_29 : decode cL_given 29 = .ok (.ireturn, 1) := by decide +kernel
theorem dL_suppose_0 : decode cL_suppose 0 = .ok (.aload_n 2, 1) := by decide +kernel
theorem dL_suppose_1 : decode cL_suppose 1 = .ok (.iconst 0, 1) := by decide +kernel
theorem dL_suppose_2 : decode cL_suppose 2 = .ok (.aload_n 0, 1) := by decide +kernel
theorem dL_suppose_3 : decode cL_suppose 3 = .ok (.iload_n 1, 1) := by decide +kernel
theorem dL_suppose_4 : decode cL_suppose 4 = .ok (.invokevirtual 64, 3) := by decide +kernel
theorem dL_suppose_7 : decode cL_suppose 7 = .ok (.i2l, 1) := by decide +kernel
theorem dL_suppose_8 : decode cL_suppose 8 = .ok (.lastore, 1) := by decide +kernel
theorem dL_suppose_9 : decode cL_suppose 9 = .ok (.goto 9, 3) := by decide +kernel
theorem dL_suppose_12 : decode cL_suppose 12 = .ok (.astore_n 3, 1) := by decide +kernel
theorem dL_suppose_13 : decode cL_suppose 13 = .ok (.iconst 1, 1) := by decide +kernel
theorem dL_suppose_14 : decode cL_suppose 14 = .ok (.ireturn, 1) := by decide +kernel
theorem dL_suppose_15 : decode cL_suppose 15 = .ok (.astore_n 3, 1) := by decide +kernel
theorem dL_suppose_16 : decode cL_suppose 16 = .ok (.iconst 2, 1) := by decide +kernel
theorem dL_suppose_17 : decode cL_suppose 17 = .ok (.ireturn, 1) := by decide +kernel
theorem dL_suppose_18 : decode cL_suppose 18 = .ok (.iconst 0, 1) := by decide +kernel
theorem dL_suppose_19 : decode cL_suppose 19 = .ok (.ireturn, 1) := by decide +kernel
theorem dL_end_0 : decode cL_end 0 = .ok (.aload_n 1, 1) := by decide +kernel
theorem dL_end_1 : decode cL_end 1 = .ok (.iconst 0, 1) := by decide +kernel
theorem dL_end_2 : decode cL_end 2 = .ok (.aload_n 0, 1) := by decide +kernel
theorem dL_end_3 : decode cL_end 3 = .ok (.invokevirtual 67, 3) := by decide +kernel
theorem dL_end_6 : decode cL_end 6 = .ok (.i2l, 1) := by decide +kernel
theorem dL_end_7 : decode cL_end 7 = .ok (.lastore, 1) := by decide +kernel
theorem dL_end_8 : decode cL_end 8 = .ok (.goto 6, 3) := by decide +kernel
theorem dL_end_11 : decode cL_end 11 = .ok (.astore_n 2, 1) := by decide +kernel
theorem dL_end_12 : decode cL_end 12 = .ok (.iconst 1, 1) := by decide +kernel
theorem dL_end_13 : decode cL_end 13 = .ok (.ireturn, 1) := by decide +kernel
theorem dL_end_14 : decode cL_end 14 = .ok (.iconst 0, 1) := by decide +kernel
theorem dL_end_15 : decode cL_end 15 = .ok (.ireturn, 1) := by decide +kernel
theorem dL_thesis_0 : decode cL_thesis 0 = .ok (.aload_n 1, 1) := by decide +kernel
theorem dL_thesis_1 : decode cL_thesis 1 = .ok (.iconst 0, 1) := by decide +kernel
theorem dL_thesis_2 : decode cL_thesis 2 = .ok (.aload_n 0, 1) := by decide +kernel
theorem dL_thesis_3 : decode cL_thesis 3 = .ok (.invokevirtual 70, 3) := by decide +kernel
theorem dL_thesis_6 : decode cL_thesis 6 = .ok (.i2l, 1) := by decide +kernel
theorem dL_thesis_7 : decode cL_thesis 7 = .ok (.lastore, 1) := by decide +kernel
theorem dL_thesis_8 : decode cL_thesis 8 = .ok (.goto 6, 3) := by decide +kernel
theorem dL_thesis_11 : decode cL_thesis 11 = .ok (.astore_n 2, 1) := by decide +kernel
theorem dL_thesis_12 : decode cL_thesis 12 = .ok (.iconst 1, 1) := by decide +kernel
theorem dL_thesis_13 : decode cL_thesis 13 = .ok (.ireturn, 1) := by decide +kernel
theorem dL_thesis_14 : decode cL_thesis 14 = .ok (.iconst 0, 1) := by decide +kernel
theorem dL_thesis_15 : decode cL_thesis 15 = .ok (.ireturn, 1) := by decide +kernel
theorem dL_ways_0 : decode cL_ways 0 = .ok (.aload_n 1, 1) := by decide +kernel
theorem dL_ways_1 : decode cL_ways 1 = .ok (.iconst 0, 1) := by decide +kernel
theorem dL_ways_2 : decode cL_ways 2 = .ok (.aload_n 0, 1) := by decide +kernel
theorem dL_ways_3 : decode cL_ways 3 = .ok (.invokevirtual 73, 3) := by decide +kernel
theorem dL_ways_6 : decode cL_ways 6 = .ok (.i2l, 1) := by decide +kernel
theorem dL_ways_7 : decode cL_ways 7 = .ok (.lastore, 1) := by decide +kernel
theorem dL_ways_8 : decode cL_ways 8 = .ok (.goto 6, 3) := by decide +kernel
theorem dL_ways_11 : decode cL_ways 11 = .ok (.astore_n 2, 1) := by decide +kernel
theorem dL_ways_12 : decode cL_ways 12 = .ok (.iconst 1, 1) := by decide +kernel
theorem dL_ways_13 : decode cL_ways 13 = .ok (.ireturn, 1) := by decide +kernel
theorem dL_ways_14 : decode cL_ways 14 = .ok (.iconst 0, 1) := by decide +kernel
theorem dL_ways_15 : decode cL_ways 15 = .ok (.ireturn, 1) := by decide +kernel
theorem dL_about_0 : decode cL_about 0 = .ok (.aload_n 3, 1) := by decide +kernel
theorem dL_about_1 : decode cL_about 1 = .ok (.iconst 0, 1) := by decide +kernel
theorem dL_about_2 : decode cL_about 2 = .ok (.aload_n 0, 1) := by decide +kernel
theorem dL_about_3 : decode cL_about 3 = .ok (.iload_n 1, 1) := by decide +kernel
theorem dL_about_4 : decode cL_about 4 = .ok (.iload_n 2, 1) := by decide +kernel
theorem dL_about_5 : decode cL_about 5 = .ok (.invokevirtual 76, 3) := by decide +kernel
theorem dL_about_8 : decode cL_about 8 = .ok (.i2l, 1) := by decide +kernel
theorem dL_about_9 : decode cL_about 9 = .ok (.lastore, 1) := by decide +kernel
theorem dL_about_10 : decode cL_about 10 = .ok (.goto 7, 3) := by decide +kernel
theorem dL_about_13 : decode cL_about 13 = .ok (.astore 4, 2) := by decide +kernel
theorem dL_about_15 : decode cL_about 15 = .ok (.iconst 1, 1) := by decide +kernel
theorem dL_about_16 : decode cL_about 16 = .ok (.ireturn, 1) := by decide +kernel
theorem dL_about_17 : decode cL_about 17 = .ok (.iconst 0, 1) := by decide +kernel
theorem dL_about_18 : decode cL_about 18 = .ok (.ireturn, 1) := by decide +kernel
theorem dL_part_0 : decode cL_part 0 = .ok (.aload_n 3, 1) := by decide +kernel
theorem dL_part_1 : decode cL_part 1 = .ok (.iconst 0, 1) := by decide +kernel
theorem dL_part_2 : decode cL_part 2 = .ok (.aload_n 0, 1) := by decide +kernel
theorem dL_part_3 : decode cL_part 3 = .ok (.iload_n 1, 1) := by decide +kernel
theorem dL_part_4 : decode cL_part 4 = .ok (.iload_n 2, 1) := by decide +kernel
theorem dL_part_5 : decode cL_part 5 = .ok (.invokevirtual 80, 3) := by decide +kernel
theorem dL_part_8 : decode cL_part 8 = .ok (.i2l, 1) := by decide +kernel
theorem dL_part_9 : decode cL_part 9 = .ok (.lastore, 1) := by decide +kernel
theorem dL_part_10 : decode cL_part 10 = .ok (.goto 11, 3) := by decide +kernel
theorem dL_part_13 : decode cL_part 13 = .ok (.astore 4, 2) := by decide +kernel
theorem dL_part_15 : decode cL_part 15 = .ok (.iconst 1, 1) := by decide +kernel
theorem dL_part_16 : decode cL_part 16 = .ok (.ireturn, 1) := by decide +kernel
theorem dL_part_17 : decode cL_part 17 = .ok (.astore 4, 2) := by decide +kernel
theorem dL_part_19 : decode cL_part 19 = .ok (.iconst 2, 1) := by decide +kernel
theorem dL_part_20 : decode cL_part 20 = .ok (.ireturn, 1) := by decide +kernel
theorem dL_part_21 : decode cL_part 21 = .ok (.iconst 0, 1) := by decide +kernel
theorem dL_part_22 : decode cL_part 22 = .ok (.ireturn, 1) := by decide +kernel
theorem dL_alike_0 : decode cL_alike 0 = .ok (.aload_n 3, 1) := by decide +kernel
theorem dL_alike_1 : decode cL_alike 1 = .ok (.iconst 0, 1) := by decide +kernel
theorem dL_alike_2 : decode cL_alike 2 = .ok (.aload_n 0, 1) := by decide +kernel
theorem dL_alike_3 : decode cL_alike 3 = .ok (.iload_n 1, 1) := by decide +kernel
theorem dL_alike_4 : decode cL_alike 4 = .ok (.iload_n 2, 1) := by decide +kernel
theorem dL_alike_5 : decode cL_alike 5 = .ok (.invokevirtual 83, 3) := by decide +kernel
theorem dL_alike_8 : decode cL_alike 8 = .ok (.ifCond .eq 7, 3) := by decide +kernel
theorem dL_alike_11 : decode cL_alike 11 = .ok (.lconst 1, 1) := by decide +kernel
theorem dL_alike_12 : decode cL_alike 12 = .ok (.goto 4, 3) := by decide +kernel
theorem dL_alike_15 : decode cL_alike 15 = .ok (.lconst 0, 1) := by decide +kernel
theorem dL_alike_16 : decode cL_alike 16 = .ok (.lastore, 1) := by decide +kernel
theorem dL_alike_17 : decode cL_alike 17 = .ok (.goto 7, 3) := by decide +kernel
theorem dL_alike_20 : decode cL_alike 20 = .ok (.astore 4, 2) := by decide +kernel
theorem dL_alike_22 : decode cL_alike 22 = .ok (.iconst 1, 1) := by decide +kernel
theorem dL_alike_23 : decode cL_alike 23 = .ok (.ireturn, 1) := by decide +kernel
theorem dL_alike_24 : decode cL_alike 24 = .ok (.iconst 0, 1) := by decide +kernel
theorem dL_alike_25 : decode cL_alike 25 = .ok (.ireturn, 1) := by decide +kernel
theorem dL_count_0 : decode cL_count 0 = .ok (.aload_n 2, 1) := by decide +kernel
theorem dL_count_1 : decode cL_count 1 = .ok (.iconst 0, 1) := by decide +kernel
theorem dL_count_2 : decode cL_count 2 = .ok (.aload_n 0, 1) := by decide +kernel
theorem dL_count_3 : decode cL_count 3 = .ok (.iload_n 1, 1) := by decide +kernel
theorem dL_count_4 : decode cL_count 4 = .ok (.invokevirtual 86, 3) := by decide +kernel
theorem dL_count_7 : decode cL_count 7 = .ok (.i2l, 1) := by decide +kernel
theorem dL_count_8 : decode cL_count 8 = .ok (.lastore, 1) := by decide +kernel
theorem dL_count_9 : decode cL_count 9 = .ok (.goto 6, 3) := by decide +kernel
theorem dL_count_12 : decode cL_count 12 = .ok (.astore_n 3, 1) := by decide +kernel
theorem dL_count_13 : decode cL_count 13 = .ok (.iconst 1, 1) := by decide +kernel
theorem dL_count_14 : decode cL_count 14 = .ok (.ireturn, 1) := by decide +kernel
theorem dL_count_15 : decode cL_count 15 = .ok (.iconst 0, 1) := by decide +kernel
theorem dL_count_16 : decode cL_count 16 = .ok (.ireturn, 1) := by decide +kernel
theorem dL_cases_0 : decode cL_cases 0 = .ok (.aload_n 0, 1) := by decide +kernel
theorem dL_cases_1 : decode cL_cases 1 = .ok (.invokevirtual 61, 3) := by decide +kernel
theorem dL_cases_4 : decode cL_cases 4 = .ok (.goto 6, 3) := by decide +kernel
theorem dL_cases_7 : decode cL_cases 7 = .ok (.astore_n 1, 1) := by decide +kernel
theorem dL_cases_8 : decode cL_cases 8 = .ok (.iconst 1, 1) := by decide +kernel
theorem dL_cases_9 : decode cL_cases 9 = .ok (.ireturn, 1) := by decide +kernel
theorem dL_cases_10 : decode cL_cases 10 = .ok (.iconst 0, 1) := by decide +kernel
theorem dL_cases_11 : decode cL_cases 11 = .ok (.ireturn, 1) := by decide +kernel
theorem dL_predicate_0 : decode cL_predicate 0 = .ok (.aload_n 2, 1) := by decide +kernel
theorem dL_predicate_1 : decode cL_predicate 1 = .ok (.iconst 0, 1) := by decide +kernel
theorem dL_predicate_2 : decode cL_predicate 2 = .ok (.aload_n 0, 1) := by decide +kernel
theorem dL_predicate_3 : decode cL_predicate 3 = .ok (.iload_n 1, 1) := by decide +kernel
theorem dL_predicate_4 : decode cL_predicate 4 = .ok (.invokevirtual 7, 3) := by decide +kernel
theorem dL_predicate_7 : decode cL_predicate 7 = .ok (.i2l, 1) := by decide +kernel
theorem dL_predicate_8 : decode cL_predicate 8 = .ok (.lastore, 1) := by decide +kernel
theorem dL_predicate_9 : decode cL_predicate 9 = .ok (.goto 9, 3) := by decide +kernel
theorem dL_predicate_12 : decode cL_predicate 12 = .ok (.astore_n 3, 1) := by decide +kernel
theorem dL_predicate_13 : decode cL_predicate 13 = .ok (.iconst 1, 1) := by decide +kernel
theorem dL_predicate_14 : decode cL_predicate 14 = .ok (.ireturn, 1) := by decide +kernel
theorem dL_predicate_15 : decode cL_predicate 15 = .ok (.astore_n 3, 1) := by decide +kernel
theorem dL_predicate_16 : decode cL_predicate 16 = .ok (.iconst 2, 1) := by decide +kernel
theorem dL_predicate_17 : decode cL_predicate 17 = .ok (.ireturn, 1) := by decide +kernel
theorem dL_predicate_18 : decode cL_predicate 18 = .ok (.iconst 0, 1) := by decide +kernel
theorem dL_predicate_19 : decode cL_predicate 19 = .ok (.ireturn, 1) := by decide +kernel
