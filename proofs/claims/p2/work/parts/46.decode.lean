theorem dX6_and_0 : decode cX6_and 0 = .ok (.aload_n 0, 1) := by decide +kernel
theorem dX6_and_1 : decode cX6_and 1 = .ok (.getfield 103, 3) := by decide +kernel
theorem dX6_and_4 : decode cX6_and 4 = .ok (.istore_n 2, 1) := by decide +kernel
theorem dX6_and_5 : decode cX6_and 5 = .ok (.aload_n 0, 1) := by decide +kernel
theorem dX6_and_6 : decode cX6_and 6 = .ok (.getfield 103, 3) := by decide +kernel
theorem dX6_and_9 : decode cX6_and 9 = .ok (.istore_n 3, 1) := by decide +kernel
theorem dX6_and_10 : decode cX6_and 10 = .ok (.iconst 0, 1) := by decide +kernel
theorem dX6_and_11 : decode cX6_and 11 = .ok (.istore 4, 2) := by decide +kernel
theorem dX6_and_13 : decode cX6_and 13 = .ok (.iload_n 1, 1) := by decide +kernel
theorem dX6_and_14 : decode cX6_and 14 = .ok (.istore 5, 2) := by decide +kernel
theorem dX6_and_16 : decode cX6_and 16 = .ok (.iload 5, 2) := by decide +kernel
theorem dX6_and_18 : decode cX6_and 18 = .ok (.iload_n 2, 1) := by decide +kernel
theorem dX6_and_19 : decode cX6_and 19 = .ok (.if_icmp .ge 118, 3) := by decide +kernel
theorem dX6_and_22 : decode cX6_and 22 = .ok (.aload_n 0, 1) := by decide +kernel
theorem dX6_and_23 : decode cX6_and 23 = .ok (.getfield 40, 3) := by decide +kernel
theorem dX6_and_26 : decode cX6_and 26 = .ok (.iload 5, 2) := by decide +kernel
theorem dX6_and_28 : decode cX6_and 28 = .ok (.iaload, 1) := by decide +kernel
theorem dX6_and_29 : decode cX6_and 29 = .ok (.istore 6, 2) := by decide +kernel
theorem dX6_and_31 : decode cX6_and 31 = .ok (.aload_n 0, 1) := by decide +kernel
theorem dX6_and_32 : decode cX6_and 32 = .ok (.getfield 7, 3) := by decide +kernel
theorem dX6_and_35 : decode cX6_and 35 = .ok (.iload 6, 2) := by decide +kernel
theorem dX6_and_37 : decode cX6_and 37 = .ok (.iaload, 1) := by decide +kernel
theorem dX6_and_38 : decode cX6_and 38 = .ok (.iconst 3, 1) := by decide +kernel
theorem dX6_and_39 : decode cX6_and 39 = .ok (.if_icmp .ne 6, 3) := by decide +kernel
theorem dX6_and_42 : decode cX6_and 42 = .ok (.goto 89, 3) := by decide +kernel
theorem dX6_and_45 : decode cX6_and 45 = .ok (.aload_n 0, 1) := by decide +kernel
theorem dX6_and_46 : decode cX6_and 46 = .ok (.getfield 7, 3) := by decide +kernel
theorem dX6_and_49 : decode cX6_and 49 = .ok (.iload 6, 2) := by decide +kernel
theorem dX6_and_51 : decode cX6_and 51 = .ok (.iaload, 1) := by decide +kernel
theorem dX6_and_52 : decode cX6_and 52 = .ok (.bipush 6, 2) := by decide +kernel
theorem dX6_and_54 : decode cX6_and 54 = .ok (.if_icmp .ne 23, 3) := by decide +kernel
theorem dX6_and_57 : decode cX6_and 57 = .ok (.aload_n 0, 1) := by decide +kernel
theorem dX6_and_58 : decode cX6_and 58 = .ok (.getfield 7, 3) := by decide +kernel
theorem dX6_and_61 : decode cX6_and 61 = .ok (.aload_n 0, 1) := by decide +kernel
theorem dX6_and_62 : decode cX6_and 62 = .ok (.iload 6, 2) := by decide +kernel
theorem dX6_and_64 : decode cX6_and 64 = .ok (.iconst 0, 1) := by decide +kernel
theorem dX6_and_65 : decode cX6_and 65 = .ok (.invokevirtual 110, 3) := by decide +kernel
theorem dX6_and_68 : decode cX6_and 68 = .ok (.iaload, 1) := by decide +kernel
theorem dX6_and_69 : decode cX6_and 69 = .ok (.iconst 3, 1) := by decide +kernel
theorem dX6_and_70 : decode cX6_and 70 = .ok (.if_icmp .ne 7, 3) := by decide +kernel
theorem dX6_and_73 : decode cX6_and 73 = .ok (.iload 6, 2) := by decide +kernel
theorem dX6_and_75 : decode cX6_and 75 = .ok (.istore 4, 2) := by decide +kernel
theorem dX6_and_77 : decode cX6_and 77 = .ok (.aload_n 0, 1) := by decide +kernel
theorem dX6_and_78 : decode cX6_and 78 = .ok (.getfield 7, 3) := by decide +kernel
theorem dX6_and_81 : decode cX6_and 81 = .ok (.iload 6, 2) := by decide +kernel
theorem dX6_and_83 : decode cX6_and 83 = .ok (.iaload, 1) := by decide +kernel
theorem dX6_and_84 : decode cX6_and 84 = .ok (.bipush 7, 2) := by decide +kernel
theorem dX6_and_86 : decode cX6_and 86 = .ok (.if_icmp .ne 39, 3) := by decide +kernel
theorem dX6_and_89 : decode cX6_and 89 = .ok (.iconst 0, 1) := by decide +kernel
theorem dX6_and_90 : decode cX6_and 90 = .ok (.istore 7, 2) := by decide +kernel
theorem dX6_and_92 : decode cX6_and 92 = .ok (.iload 7, 2) := by decide +kernel
theorem dX6_and_94 : decode cX6_and 94 = .ok (.aload_n 0, 1) := by decide +kernel
theorem dX6_and_95 : decode cX6_and 95 = .ok (.getfield 19, 3) := by decide +kernel
theorem dX6_and_98 : decode cX6_and 98 = .ok (.iload 6, 2) := by decide +kernel
theorem dX6_and_100 : decode cX6_and 100 = .ok (.iaload, 1) := by decide +kernel
theorem dX6_and_101 : decode cX6_and 101 = .ok (.if_icmp .ge 21, 3) := by decide +kernel
theorem dX6_and_104 : decode cX6_and 104 = .ok (.aload_n 0, 1) := by decide +kernel
theorem dX6_and_105 : decode cX6_and 105 = .ok (.aload_n 0, 1) := by decide +kernel
theorem dX6_and_106 : decode cX6_and 106 = .ok (.iload 6, 2) := by decide +kernel
theorem dX6_and_108 : decode cX6_and 108 = .ok (.iload 7, 2) := by decide +kernel
theorem dX6_and_110 : decode cX6_and 110 = .ok (.invokevirtual 110, 3) := by decide +kernel
theorem dX6_and_113 : decode cX6_and 113 = .ok (.invokevirtual 130, 3) := by decide +kernel
theorem dX6_and_116 : decode cX6_and 116 = .ok (.iinc 7 1, 3) := by decide +kernel
theorem dX6_and_119 : decode cX6_and 119 = .ok (.goto (-27), 3) := by decide +kernel
theorem dX6_and_122 : decode cX6_and 122 = .ok (.goto 9, 3) := by decide +kernel
theorem dX6_and_125 : decode cX6_and 125 = .ok (.aload_n 0, 1) := by decide +kernel
theorem dX6_and_126 : decode cX6_and 126 = .ok (.iload 6, 2) := by decide +kernel
theorem dX6_and_128 : decode cX6_and 128 = .ok (.invokevirtual 130, 3) := by decide +kernel
theorem dX6_and_131 : decode cX6_and 131 = .ok (.iinc 5 1, 3) := by decide +kernel
theorem dX6_and_134 : decode cX6_and 134 = .ok (.goto (-118), 3) := by decide +kernel
theorem dX6_and_137 : decode cX6_and 137 = .ok (.iload 4, 2) := by decide +kernel
theorem dX6_and_139 : decode cX6_and 139 = .ok (.ifCond .le 8, 3) := by decide +kernel
theorem dX6_and_142 : decode cX6_and 142 = .ok (.iload 4, 2) := by decide +kernel
theorem dX6_and_144 : decode cX6_and 144 = .ok (.goto 45, 3) := by decide +kernel
theorem dX6_and_147 : decode cX6_and 147 = .ok (.aload_n 0, 1) := by decide +kernel
theorem dX6_and_148 : decode cX6_and 148 = .ok (.getfield 103, 3) := by decide +kernel
theorem dX6_and_151 : decode cX6_and 151 = .ok (.iload_n 3, 1) := by decide +kernel
theorem dX6_and_152 : decode cX6_and 152 = .ok (.if_icmp .ne 10, 3) := by decide +kernel
theorem dX6_and_155 : decode cX6_and 155 = .ok (.aload_n 0, 1) := by decide +kernel
theorem dX6_and_156 : decode cX6_and 156 = .ok (.invokevirtual 147, 3) := by decide +kernel
theorem dX6_and_159 : decode cX6_and 159 = .ok (.goto 30, 3) := by decide +kernel
theorem dX6_and_162 : decode cX6_and 162 = .ok (.aload_n 0, 1) := by decide +kernel
theorem dX6_and_163 : decode cX6_and 163 = .ok (.getfield 103, 3) := by decide +kernel
theorem dX6_and_166 : decode cX6_and 166 = .ok (.iload_n 3, 1) := by decide +kernel
theorem dX6_and_167 : decode cX6_and 167 = .ok (.iconst 1, 1) := by decide +kernel
theorem dX6_and_168 : decode cX6_and 168 = .ok (.iadd, 1) := by decide +kernel
theorem dX6_and_169 : decode cX6_and 169 = .ok (.if_icmp .ne 12, 3) := by decide +kernel
theorem dX6_and_172 : decode cX6_and 172 = .ok (.aload_n 0, 1) := by decide +kernel
theorem dX6_and_173 : decode cX6_and 173 = .ok (.getfield 40, 3) := by decide +kernel
theorem dX6_and_176 : decode cX6_and 176 = .ok (.iload_n 3, 1) := by decide +kernel
theorem dX6_and_177 : decode cX6_and 177 = .ok (.iaload, 1) := by decide +kernel
theorem dX6_and_178 : decode cX6_and 178 = .ok (.goto 11, 3) := by decide +kernel
theorem dX6_and_181 : decode cX6_and 181 = .ok (.aload_n 0, 1) := by decide +kernel
theorem dX6_and_182 : decode cX6_and 182 = .ok (.bipush 7, 2) := by decide +kernel
theorem dX6_and_184 : decode cX6_and 184 = .ok (.iconst (-1), 1) := by decide +kernel
theorem dX6_and_185 : decode cX6_and 185 = .ok (.iload_n 3, 1) := by decide +kernel
theorem dX6_and_186 : decode cX6_and 186 = .ok (.invokevirtual 133, 3) := by decide +kernel
theorem dX6_and_189 : decode cX6_and 189 = .ok (.istore 5, 2) := by decide +kernel
theorem dX6_and_191 : decode cX6_and 191 = .ok (.aload_n 0, 1) := by decide +kernel
theorem dX6_and_192 : decode cX6_and 192 = .ok (.iload_n 1, 1) := by decide +kernel
theorem dX6_and_193 : decode cX6_and 193 = .ok (.putfield 103, 3) := by decide +kernel
theorem dX6_and_196 : decode cX6_and 196 = .ok (.iload 5, 2) := by decide +kernel
theorem dX6_and_198 : decode cX6_and 198 = .ok (.ireturn, 1) := by decide +kernel
