theorem dX5_addTerm_0 : decode cX5_addTerm 0 = .ok (.aload_n 0, 1) := by decide +kernel
theorem dX5_addTerm_1 : decode cX5_addTerm 1 = .ok (.iload_n 1, 1) := by decide +kernel
theorem dX5_addTerm_2 : decode cX5_addTerm 2 = .ok (.invokevirtual 274, 3) := by decide +kernel
theorem dX5_addTerm_5 : decode cX5_addTerm 5 = .ok (.astore_n 2, 1) := by decide +kernel
theorem dX5_addTerm_6 : decode cX5_addTerm 6 = .ok (.aload_n 2, 1) := by decide +kernel
theorem dX5_addTerm_7 : decode cX5_addTerm 7 = .ok (.ifnull 14, 3) := by decide +kernel
theorem dX5_addTerm_10 : decode cX5_addTerm 10 = .ok (.aload_n 0, 1) := by decide +kernel
theorem dX5_addTerm_11 : decode cX5_addTerm 11 = .ok (.getfield 32, 3) := by decide +kernel
theorem dX5_addTerm_14 : decode cX5_addTerm 14 = .ok (.aload_n 2, 1) := by decide +kernel
theorem dX5_addTerm_15 : decode cX5_addTerm 15 = .ok (.invokevirtual 231, 3) := by decide +kernel
theorem dX5_addTerm_18 : decode cX5_addTerm 18 = .ok (.invokevirtual 277, 3) := by decide +kernel
theorem dX5_addTerm_21 : decode cX5_addTerm 21 = .ok (.return_, 1) := by decide +kernel
theorem dX5_atom_0 : decode cX5_atom 0 = .ok (.iload_n 1, 1) := by decide +kernel
theorem dX5_atom_1 : decode cX5_atom 1 = .ok (.iconst (-1), 1) := by decide +kernel
theorem dX5_atom_2 : decode cX5_atom 2 = .ok (.if_icmp .eq 21, 3) := by decide +kernel
theorem dX5_atom_5 : decode cX5_atom 5 = .ok (.aload_n 0, 1) := by decide +kernel
theorem dX5_atom_6 : decode cX5_atom 6 = .ok (.iload_n 1, 1) := by decide +kernel
theorem dX5_atom_7 : decode cX5_atom 7 = .ok (.invokevirtual 71, 3) := by decide +kernel
theorem dX5_atom_10 : decode cX5_atom 10 = .ok (.ifCond .ne 13, 3) := by decide +kernel
theorem dX5_atom_13 : decode cX5_atom 13 = .ok (.new 51, 3) := by decide +kernel
theorem dX5_atom_16 : decode cX5_atom 16 = .ok (.dup, 1) := by decide +kernel
theorem dX5_atom_17 : decode cX5_atom 17 = .ok (.ldc 99, 2) := by decide +kernel
theorem dX5_atom_19 : decode cX5_atom 19 = .ok (.invokespecial 55, 3) := by decide +kernel
theorem dX5_atom_22 : decode cX5_atom 22 = .ok (.athrow, 1) := by decide +kernel
theorem dX5_atom_23 : decode cX5_atom 23 = .ok (.iload_n 1, 1) := by decide +kernel
theorem dX5_atom_24 : decode cX5_atom 24 = .ok (.iconst (-1), 1) := by decide +kernel
theorem dX5_atom_25 : decode cX5_atom 25 = .ok (.if_icmp .ne 7, 3) := by decide +kernel
theorem dX5_atom_28 : decode cX5_atom 28 = .ok (.iconst 2, 1) := by decide +kernel
theorem dX5_atom_29 : decode cX5_atom 29 = .ok (.goto 9, 3) := by decide +kernel
theorem dX5_atom_32 : decode cX5_atom 32 = .ok (.aload_n 0, 1) := by decide +kernel
theorem dX5_atom_33 : decode cX5_atom 33 = .ok (.getfield 15, 3) := by decide +kernel
theorem dX5_atom_36 : decode cX5_atom 36 = .ok (.iload_n 1, 1) := by decide +kernel
theorem dX5_atom_37 : decode cX5_atom 37 = .ok (.iaload, 1) := by decide +kernel
theorem dX5_atom_38 : decode cX5_atom 38 = .ok (.istore 4, 2) := by decide +kernel
theorem dX5_atom_40 : decode cX5_atom 40 = .ok (.aload_n 0, 1) := by decide +kernel
theorem dX5_atom_41 : decode cX5_atom 41 = .ok (.iload_n 2, 1) := by decide +kernel
theorem dX5_atom_42 : decode cX5_atom 42 = .ok (.iload 4, 2) := by decide +kernel
theorem dX5_atom_44 : decode cX5_atom 44 = .ok (.ifCond .le 7, 3) := by decide +kernel
theorem dX5_atom_47 : decode cX5_atom 47 = .ok (.iconst 1, 1) := by decide +kernel
theorem dX5_atom_48 : decode cX5_atom 48 = .ok (.goto 4, 3) := by decide +kernel
theorem dX5_atom_51 : decode cX5_atom 51 = .ok (.iconst 0, 1) := by decide +kernel
theorem dX5_atom_52 : decode cX5_atom 52 = .ok (.invokevirtual 101, 3) := by decide +kernel
theorem dX5_atom_55 : decode cX5_atom 55 = .ok (.ifCond .eq 22, 3) := by decide +kernel
theorem dX5_atom_58 : decode cX5_atom 58 = .ok (.aload_n 0, 1) := by decide +kernel
theorem dX5_atom_59 : decode cX5_atom 59 = .ok (.iload_n 3, 1) := by decide +kernel
theorem dX5_atom_60 : decode cX5_atom 60 = .ok (.iload 4, 2) := by decide +kernel
theorem dX5_atom_62 : decode cX5_atom 62 = .ok (.iconst 1, 1) := by decide +kernel
theorem dX5_atom_63 : decode cX5_atom 63 = .ok (.if_icmp .le 7, 3) := by decide +kernel
theorem dX5_atom_66 : decode cX5_atom 66 = .ok (.iconst 1, 1) := by decide +kernel
theorem dX5_atom_67 : decode cX5_atom 67 = .ok (.goto 4, 3) := by decide +kernel
theorem dX5_atom_70 : decode cX5_atom 70 = .ok (.iconst 0, 1) := by decide +kernel
theorem dX5_atom_71 : decode cX5_atom 71 = .ok (.invokevirtual 101, 3) := by decide +kernel
theorem dX5_atom_74 : decode cX5_atom 74 = .ok (.ifCond .ne 13, 3) := by decide +kernel
theorem dX5_atom_77 : decode cX5_atom 77 = .ok (.new 51, 3) := by decide +kernel
theorem dX5_atom_80 : decode cX5_atom 80 = .ok (.dup, 1) := by decide +kernel
theorem dX5_atom_81 : decode cX5_atom 81 = .ok (.ldc 105, 2) := by decide +kernel
theorem dX5_atom_83 : decode cX5_atom 83 = .ok (.invokespecial 55, 3) := by decide +kernel
theorem dX5_atom_86 : decode cX5_atom 86 = .ok (.athrow, 1) := by decide +kernel
theorem dX5_atom_87 : decode cX5_atom 87 = .ok (.aload_n 0, 1) := by decide +kernel
theorem dX5_atom_88 : decode cX5_atom 88 = .ok (.getfield 32, 3) := by decide +kernel
theorem dX5_atom_91 : decode cX5_atom 91 = .ok (.iload_n 1, 1) := by decide +kernel
theorem dX5_atom_92 : decode cX5_atom 92 = .ok (.iconst (-1), 1) := by decide +kernel
theorem dX5_atom_93 : decode cX5_atom 93 = .ok (.if_icmp .ne 7, 3) := by decide +kernel
theorem dX5_atom_96 : decode cX5_atom 96 = .ok (.iconst 4, 1) := by decide +kernel
theorem dX5_atom_97 : decode cX5_atom 97 = .ok (.goto 9, 3) := by decide +kernel
theorem dX5_atom_100 : decode cX5_atom 100 = .ok (.iload_n 1, 1) := by decide +kernel
theorem dX5_atom_101 : decode cX5_atom 101 = .ok (.iload 4, 2) := by decide +kernel
theorem dX5_atom_103 : decode cX5_atom 103 = .ok (.invokestatic 107, 3) := by decide +kernel
theorem dX5_atom_106 : decode cX5_atom 106 = .ok (.invokevirtual 92, 3) := by decide +kernel
theorem dX5_atom_109 : decode cX5_atom 109 = .ok (.aload_n 0, 1) := by decide +kernel
theorem dX5_atom_110 : decode cX5_atom 110 = .ok (.iload_n 2, 1) := by decide +kernel
theorem dX5_atom_111 : decode cX5_atom 111 = .ok (.invokevirtual 110, 3) := by decide +kernel
theorem dX5_atom_114 : decode cX5_atom 114 = .ok (.aload_n 0, 1) := by decide +kernel
theorem dX5_atom_115 : decode cX5_atom 115 = .ok (.iload_n 3, 1) := by decide +kernel
theorem dX5_atom_116 : decode cX5_atom 116 = .ok (.invokevirtual 110, 3) := by decide +kernel
theorem dX5_atom_119 : decode cX5_atom 119 = .ok (.aload_n 0, 1) := by decide +kernel
theorem dX5_atom_120 : decode cX5_atom 120 = .ok (.invokevirtual 96, 3) := by decide +kernel
theorem dX5_atom_123 : decode cX5_atom 123 = .ok (.ireturn, 1) := by decide +kernel
theorem dX5_alike_0 : decode cX5_alike 0 = .ok (.aload_n 0, 1) := by decide +kernel
theorem dX5_alike_1 : decode cX5_alike 1 = .ok (.iload_n 1, 1) := by decide +kernel
theorem dX5_alike_2 : decode cX5_alike 2 = .ok (.invokevirtual 226, 3) := by decide +kernel
theorem dX5_alike_5 : decode cX5_alike 5 = .ok (.astore_n 3, 1) := by decide +kernel
theorem dX5_alike_6 : decode cX5_alike 6 = .ok (.aload_n 0, 1) := by decide +kernel
theorem dX5_alike_7 : decode cX5_alike 7 = .ok (.iload_n 2, 1) := by decide +kernel
theorem dX5_alike_8 : decode cX5_alike 8 = .ok (.invokevirtual 226, 3) := by decide +kernel
theorem dX5_alike_11 : decode cX5_alike 11 = .ok (.astore 4, 2) := by decide +kernel
theorem dX5_alike_13 : decode cX5_alike 13 = .ok (.aload_n 3, 1) := by decide +kernel
theorem dX5_alike_14 : decode cX5_alike 14 = .ok (.ifnull 8, 3) := by decide +kernel
theorem dX5_alike_17 : decode cX5_alike 17 = .ok (.aload 4, 2) := by decide +kernel
theorem dX5_alike_19 : decode cX5_alike 19 = .ok (.ifnonnull 13, 3) := by decide +kernel
theorem dX5_alike_22 : decode cX5_alike 22 = .ok (.new 51, 3) := by decide +kernel
theorem dX5_alike_25 : decode cX5_alike 25 = .ok (.dup, 1) := by decide +kernel
theorem dX5_alike_26 : decode cX5_alike 26 = .ok (.ldc 229, 2) := by decide +kernel
theorem dX5_alike_28 : decode cX5_alike 28 = .ok (.invokespecial 55, 3) := by decide +kernel
theorem dX5_alike_31 : decode cX5_alike 31 = .ok (.athrow, 1) := by decide +kernel
theorem dX5_alike_32 : decode cX5_alike 32 = .ok (.aload_n 0, 1) := by decide +kernel
theorem dX5_alike_33 : decode cX5_alike 33 = .ok (.getfield 32, 3) := by decide +kernel
theorem dX5_alike_36 : decode cX5_alike 36 = .ok (.aload_n 3, 1) := by decide +kernel
theorem dX5_alike_37 : decode cX5_alike 37 = .ok (.invokevirtual 130, 3) := by decide +kernel
theorem dX5_alike_40 : decode cX5_alike 40 = .ok (.aload_n 0, 1) := by decide +kernel
theorem dX5_alike_41 : decode cX5_alike 41 = .ok (.getfield 36, 3) := by decide +kernel
theorem dX5_alike_44 : decode cX5_alike 44 = .ok (.aload 4, 2) := by decide +kernel
theorem dX5_alike_46 : decode cX5_alike 46 = .ok (.invokevirtual 130, 3) := by decide +kernel
theorem dX5_alike_49 : decode cX5_alike 49 = .ok (.aload_n 0, 1) := by decide +kernel
theorem dX5_alike_50 : decode cX5_alike 50 = .ok (.getfield 32, 3) := by decide +kernel
theorem dX5_alike_53 : decode cX5_alike 53 = .ok (.aload_n 0, 1) := by decide +kernel
theorem dX5_alike_54 : decode cX5_alike 54 = .ok (.getfield 36, 3) := by decide +kernel
theorem dX5_alike_57 : decode cX5_alike 57 = .ok (.invokevirtual 250, 3) := by decide +kernel
theorem dX5_alike_60 : decode cX5_alike 60 = .ok (.ireturn, 1) := by decide +kernel
