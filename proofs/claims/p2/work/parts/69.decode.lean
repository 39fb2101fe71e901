theorem dX6_atom_0 : decode cX6_atom 0 = .ok (.aload_n 0, 1) := by decide +kernel
theorem dX6_atom_1 : decode cX6_atom 1 = .ok (.iconst 0, 1) := by decide +kernel
theorem dX6_atom_2 : decode cX6_atom 2 = .ok (.putfield 93, 3) := by decide +kernel
theorem dX6_atom_5 : decode cX6_atom 5 = .ok (.iload_n 1, 1) := by decide +kernel
theorem dX6_atom_6 : decode cX6_atom 6 = .ok (.iconst (-1), 1) := by decide +kernel
theorem dX6_atom_7 : decode cX6_atom 7 = .ok (.if_icmp .lt 11, 3) := by decide +kernel
theorem dX6_atom_10 : decode cX6_atom 10 = .ok (.iload_n 1, 1) := by decide +kernel
theorem dX6_atom_11 : decode cX6_atom 11 = .ok (.aload_n 0, 1) := by decide +kernel
theorem dX6_atom_12 : decode cX6_atom 12 = .ok (.getfield 221, 3) := by decide +kernel
theorem dX6_atom_15 : decode cX6_atom 15 = .ok (.if_icmp .lt 9, 3) := by decide +kernel
theorem dX6_atom_18 : decode cX6_atom 18 = .ok (.aload_n 0, 1) := by decide +kernel
theorem dX6_atom_19 : decode cX6_atom 19 = .ok (.iconst 1, 1) := by decide +kernel
theorem dX6_atom_20 : decode cX6_atom 20 = .ok (.invokevirtual 208, 3) := by decide +kernel
theorem dX6_atom_23 : decode cX6_atom 23 = .ok (.ireturn, 1) := by decide +kernel
theorem dX6_atom_24 : decode cX6_atom 24 = .ok (.iload_n 1, 1) := by decide +kernel
theorem dX6_atom_25 : decode cX6_atom 25 = .ok (.ifCond .ge 7, 3) := by decide +kernel
theorem dX6_atom_28 : decode cX6_atom 28 = .ok (.iconst 2, 1) := by decide +kernel
theorem dX6_atom_29 : decode cX6_atom 29 = .ok (.goto 9, 3) := by decide +kernel
theorem dX6_atom_32 : decode cX6_atom 32 = .ok (.aload_n 0, 1) := by decide +kernel
theorem dX6_atom_33 : decode cX6_atom 33 = .ok (.getfield 46, 3) := by decide +kernel
theorem dX6_atom_36 : decode cX6_atom 36 = .ok (.iload_n 1, 1) := by decide +kernel
theorem dX6_atom_37 : decode cX6_atom 37 = .ok (.iaload, 1) := by decide +kernel
theorem dX6_atom_38 : decode cX6_atom 38 = .ok (.istore 4, 2) := by decide +kernel
theorem dX6_atom_40 : decode cX6_atom 40 = .ok (.aload_n 0, 1) := by decide +kernel
theorem dX6_atom_41 : decode cX6_atom 41 = .ok (.iload_n 2, 1) := by decide +kernel
theorem dX6_atom_42 : decode cX6_atom 42 = .ok (.invokevirtual 230, 3) := by decide +kernel
theorem dX6_atom_45 : decode cX6_atom 45 = .ok (.istore 5, 2) := by decide +kernel
theorem dX6_atom_47 : decode cX6_atom 47 = .ok (.aload_n 0, 1) := by decide +kernel
theorem dX6_atom_48 : decode cX6_atom 48 = .ok (.iload_n 3, 1) := by decide +kernel
theorem dX6_atom_49 : decode cX6_atom 49 = .ok (.invokevirtual 230, 3) := by decide +kernel
theorem dX6_atom_52 : decode cX6_atom 52 = .ok (.istore 6, 2) := by decide +kernel
theorem dX6_atom_54 : decode cX6_atom 54 = .ok (.iload 4, 2) := by decide +kernel
theorem dX6_atom_56 : decode cX6_atom 56 = .ok (.ifCond .le 11, 3) := by decide +kernel
theorem dX6_atom_59 : decode cX6_atom 59 = .ok (.iload 5, 2) := by decide +kernel
theorem dX6_atom_61 : decode cX6_atom 61 = .ok (.ifCond .ne 17, 3) := by decide +kernel
theorem dX6_atom_64 : decode cX6_atom 64 = .ok (.goto 8, 3) := by decide +kernel
theorem dX6_atom_67 : decode cX6_atom 67 = .ok (.iload_n 2, 1) := by decide +kernel
theorem dX6_atom_68 : decode cX6_atom 68 = .ok (.iconst (-1), 1) := by decide +kernel
theorem dX6_atom_69 : decode cX6_atom 69 = .ok (.if_icmp .eq 9, 3) := by decide +kernel
theorem dX6_atom_72 : decode cX6_atom 72 = .ok (.aload_n 0, 1) := by decide +kernel
theorem dX6_atom_73 : decode cX6_atom 73 = .ok (.iconst 1, 1) := by decide +kernel
theorem dX6_atom_74 : decode cX6_atom 74 = .ok (.invokevirtual 208, 3) := by decide +kernel
theorem dX6_atom_77 : decode cX6_atom 77 = .ok (.ireturn, 1) := by decide +kernel
theorem dX6_atom_78 : decode cX6_atom 78 = .ok (.iload 4, 2) := by decide +kernel
theorem dX6_atom_80 : decode cX6_atom 80 = .ok (.iconst 1, 1) := by decide +kernel
theorem dX6_atom_81 : decode cX6_atom 81 = .ok (.if_icmp .le 11, 3) := by decide +kernel
theorem dX6_atom_84 : decode cX6_atom 84 = .ok (.iload 6, 2) := by decide +kernel
theorem dX6_atom_86 : decode cX6_atom 86 = .ok (.ifCond .ne 17, 3) := by decide +kernel
theorem dX6_atom_89 : decode cX6_atom 89 = .ok (.goto 8, 3) := by decide +kernel
theorem dX6_atom_92 : decode cX6_atom 92 = .ok (.iload_n 3, 1) := by decide +kernel
theorem dX6_atom_93 : decode cX6_atom 93 = .ok (.iconst (-1), 1) := by decide +kernel
theorem dX6_atom_94 : decode cX6_atom 94 = .ok (.if_icmp .eq 9, 3) := by decide +kernel
theorem dX6_atom_97 : decode cX6_atom 97 = .ok (.aload_n 0, 1) := by decide +kernel
theorem dX6_atom_98 : decode cX6_atom 98 = .ok (.iconst 1, 1) := by decide +kernel
theorem dX6_atom_99 : decode cX6_atom 99 = .ok (.invokevirtual 208, 3) := by decide +kernel
theorem dX6_atom_102 : decode cX6_atom 102 = .ok (.ireturn, 1) := by decide +kernel
theorem dX6_atom_103 : decode cX6_atom 103 = .ok (.aload_n 0, 1) := by decide +kernel
theorem dX6_atom_104 : decode cX6_atom 104 = .ok (.getfield 103, 3) := by decide +kernel
theorem dX6_atom_107 : decode cX6_atom 107 = .ok (.istore 7, 2) := by decide +kernel
theorem dX6_atom_109 : decode cX6_atom 109 = .ok (.iload 4, 2) := by decide +kernel
theorem dX6_atom_111 : decode cX6_atom 111 = .ok (.ifCond .le 9, 3) := by decide +kernel
theorem dX6_atom_114 : decode cX6_atom 114 = .ok (.aload_n 0, 1) := by decide +kernel
theorem dX6_atom_115 : decode cX6_atom 115 = .ok (.iload 5, 2) := by decide +kernel
theorem dX6_atom_117 : decode cX6_atom 117 = .ok (.invokevirtual 130, 3) := by decide +kernel
theorem dX6_atom_120 : decode cX6_atom 120 = .ok (.iload 4, 2) := by decide +kernel
theorem dX6_atom_122 : decode cX6_atom 122 = .ok (.iconst 1, 1) := by decide +kernel
theorem dX6_atom_123 : decode cX6_atom 123 = .ok (.if_icmp .le 9, 3) := by decide +kernel
theorem dX6_atom_126 : decode cX6_atom 126 = .ok (.aload_n 0, 1) := by decide +kernel
theorem dX6_atom_127 : decode cX6_atom 127 = .ok (.iload 6, 2) := by decide +kernel
theorem dX6_atom_129 : decode cX6_atom 129 = .ok (.invokevirtual 130, 3) := by decide +kernel
theorem dX6_atom_132 : decode cX6_atom 132 = .ok (.aload_n 0, 1) := by decide +kernel
theorem dX6_atom_133 : decode cX6_atom 133 = .ok (.aload_n 0, 1) := by decide +kernel
theorem dX6_atom_134 : decode cX6_atom 134 = .ok (.iload_n 1, 1) := by decide +kernel
theorem dX6_atom_135 : decode cX6_atom 135 = .ok (.ifCond .ge 7, 3) := by decide +kernel
theorem dX6_atom_138 : decode cX6_atom 138 = .ok (.iconst 4, 1) := by decide +kernel
theorem dX6_atom_139 : decode cX6_atom 139 = .ok (.goto 4, 3) := by decide +kernel
theorem dX6_atom_142 : decode cX6_atom 142 = .ok (.iconst 5, 1) := by decide +kernel
theorem dX6_atom_143 : decode cX6_atom 143 = .ok (.iload_n 1, 1) := by decide +kernel
theorem dX6_atom_144 : decode cX6_atom 144 = .ok (.iload 7, 2) := by decide +kernel
theorem dX6_atom_146 : decode cX6_atom 146 = .ok (.invokevirtual 133, 3) := by decide +kernel
theorem dX6_atom_149 : decode cX6_atom 149 = .ok (.iconst 2, 1) := by decide +kernel
theorem dX6_atom_150 : decode cX6_atom 150 = .ok (.invokevirtual 227, 3) := by decide +kernel
theorem dX6_atom_153 : decode cX6_atom 153 = .ok (.ireturn, 1) := by decide +kernel
