theorem dX6_says_0 : decode cX6_says 0 = .ok (.aload_n 0, 1) := by decide +kernel
theorem dX6_says_1 : decode cX6_says 1 = .ok (.invokevirtual 147, 3) := by decide +kernel
theorem dX6_says_4 : decode cX6_says 4 = .ok (.istore_n 2, 1) := by decide +kernel
theorem dX6_says_5 : decode cX6_says 5 = .ok (.aload_n 0, 1) := by decide +kernel
theorem dX6_says_6 : decode cX6_says 6 = .ok (.getfield 190, 3) := by decide +kernel
theorem dX6_says_9 : decode cX6_says 9 = .ok (.iconst 1, 1) := by decide +kernel
theorem dX6_says_10 : decode cX6_says 10 = .ok (.isub, 1) := by decide +kernel
theorem dX6_says_11 : decode cX6_says 11 = .ok (.istore_n 3, 1) := by decide +kernel
theorem dX6_says_12 : decode cX6_says 12 = .ok (.iload_n 3, 1) := by decide +kernel
theorem dX6_says_13 : decode cX6_says 13 = .ok (.aload_n 0, 1) := by decide +kernel
theorem dX6_says_14 : decode cX6_says 14 = .ok (.getfield 61, 3) := by decide +kernel
theorem dX6_says_17 : decode cX6_says 17 = .ok (.iload_n 1, 1) := by decide +kernel
theorem dX6_says_18 : decode cX6_says 18 = .ok (.iaload, 1) := by decide +kernel
theorem dX6_says_19 : decode cX6_says 19 = .ok (.if_icmp .lt 198, 3) := by decide +kernel
theorem dX6_says_22 : decode cX6_says 22 = .ok (.aload_n 0, 1) := by decide +kernel
theorem dX6_says_23 : decode cX6_says 23 = .ok (.getfield 22, 3) := by decide +kernel
theorem dX6_says_26 : decode cX6_says 26 = .ok (.iload_n 2, 1) := by decide +kernel
theorem dX6_says_27 : decode cX6_says 27 = .ok (.iaload, 1) := by decide +kernel
theorem dX6_says_28 : decode cX6_says 28 = .ok (.bipush 100, 2) := by decide +kernel
theorem dX6_says_30 : decode cX6_says 30 = .ok (.if_icmp .le 7, 3) := by decide +kernel
theorem dX6_says_33 : decode cX6_says 33 = .ok (.iconst 1, 1) := by decide +kernel
theorem dX6_says_34 : decode cX6_says 34 = .ok (.goto 4, 3) := by decide +kernel
theorem dX6_says_37 : decode cX6_says 37 = .ok (.iconst 0, 1) := by decide +kernel
theorem dX6_says_38 : decode cX6_says 38 = .ok (.istore 4, 2) := by decide +kernel
theorem dX6_says_40 : decode cX6_says 40 = .ok (.aload_n 0, 1) := by decide +kernel
theorem dX6_says_41 : decode cX6_says 41 = .ok (.getfield 74, 3) := by decide +kernel
theorem dX6_says_44 : decode cX6_says 44 = .ok (.iload_n 3, 1) := by decide +kernel
theorem dX6_says_45 : decode cX6_says 45 = .ok (.iaload, 1) := by decide +kernel
theorem dX6_says_46 : decode cX6_says 46 = .ok (.ifCond .eq 24, 3) := by decide +kernel
theorem dX6_says_49 : decode cX6_says 49 = .ok (.aload_n 0, 1) := by decide +kernel
theorem dX6_says_50 : decode cX6_says 50 = .ok (.getfield 77, 3) := by decide +kernel
theorem dX6_says_53 : decode cX6_says 53 = .ok (.iload_n 3, 1) := by decide +kernel
theorem dX6_says_54 : decode cX6_says 54 = .ok (.iaload, 1) := by decide +kernel
theorem dX6_says_55 : decode cX6_says 55 = .ok (.aload_n 0, 1) := by decide +kernel
theorem dX6_says_56 : decode cX6_says 56 = .ok (.aload_n 0, 1) := by decide +kernel
theorem dX6_says_57 : decode cX6_says 57 = .ok (.invokevirtual 147, 3) := by decide +kernel
theorem dX6_says_60 : decode cX6_says 60 = .ok (.invokevirtual 154, 3) := by decide +kernel
theorem dX6_says_63 : decode cX6_says 63 = .ok (.if_icmp .ne 7, 3) := by decide +kernel
theorem dX6_says_66 : decode cX6_says 66 = .ok (.iconst 1, 1) := by decide +kernel
theorem dX6_says_67 : decode cX6_says 67 = .ok (.goto 4, 3) := by decide +kernel
theorem dX6_says_70 : decode cX6_says 70 = .ok (.iconst 0, 1) := by decide +kernel
theorem dX6_says_71 : decode cX6_says 71 = .ok (.istore 5, 2) := by decide +kernel
theorem dX6_says_73 : decode cX6_says 73 = .ok (.iload 4, 2) := by decide +kernel
theorem dX6_says_75 : decode cX6_says 75 = .ok (.ifCond .eq 11, 3) := by decide +kernel
theorem dX6_says_78 : decode cX6_says 78 = .ok (.iload 5, 2) := by decide +kernel
theorem dX6_says_80 : decode cX6_says 80 = .ok (.ifCond .ne 6, 3) := by decide +kernel
theorem dX6_says_83 : decode cX6_says 83 = .ok (.goto 128, 3) := by decide +kernel
theorem dX6_says_86 : decode cX6_says 86 = .ok (.iload 5, 2) := by decide +kernel
theorem dX6_says_88 : decode cX6_says 88 = .ok (.ifCond .eq 30, 3) := by decide +kernel
theorem dX6_says_91 : decode cX6_says 91 = .ok (.aload_n 0, 1) := by decide +kernel
theorem dX6_says_92 : decode cX6_says 92 = .ok (.getfield 74, 3) := by decide +kernel
theorem dX6_says_95 : decode cX6_says 95 = .ok (.iload_n 3, 1) := by decide +kernel
theorem dX6_says_96 : decode cX6_says 96 = .ok (.iaload, 1) := by decide +kernel
theorem dX6_says_97 : decode cX6_says 97 = .ok (.iconst 2, 1) := by decide +kernel
theorem dX6_says_98 : decode cX6_says 98 = .ok (.if_icmp .ne 12, 3) := by decide +kernel
theorem dX6_says_101 : decode cX6_says 101 = .ok (.aload_n 0, 1) := by decide +kernel
theorem dX6_says_102 : decode cX6_says 102 = .ok (.getfield 77, 3) := by decide +kernel
theorem dX6_says_105 : decode cX6_says 105 = .ok (.iload_n 3, 1) := by decide +kernel
theorem dX6_says_106 : decode cX6_says 106 = .ok (.iaload, 1) := by decide +kernel
theorem dX6_says_107 : decode cX6_says 107 = .ok (.goto 7, 3) := by decide +kernel
theorem dX6_says_110 : decode cX6_says 110 = .ok (.aload_n 0, 1) := by decide +kernel
theorem dX6_says_111 : decode cX6_says 111 = .ok (.invokevirtual 147, 3) := by decide +kernel
theorem dX6_says_114 : decode cX6_says 114 = .ok (.istore_n 2, 1) := by decide +kernel
theorem dX6_says_115 : decode cX6_says 115 = .ok (.goto 96, 3) := by decide +kernel
theorem dX6_says_118 : decode cX6_says 118 = .ok (.aload_n 0, 1) := by decide +kernel
theorem dX6_says_119 : decode cX6_says 119 = .ok (.getfield 74, 3) := by decide +kernel
theorem dX6_says_122 : decode cX6_says 122 = .ok (.iload_n 3, 1) := by decide +kernel
theorem dX6_says_123 : decode cX6_says 123 = .ok (.iaload, 1) := by decide +kernel
theorem dX6_says_124 : decode cX6_says 124 = .ok (.iconst 2, 1) := by decide +kernel
theorem dX6_says_125 : decode cX6_says 125 = .ok (.if_icmp .ne 18, 3) := by decide +kernel
theorem dX6_says_128 : decode cX6_says 128 = .ok (.aload_n 0, 1) := by decide +kernel
theorem dX6_says_129 : decode cX6_says 129 = .ok (.aload_n 0, 1) := by decide +kernel
theorem dX6_says_130 : decode cX6_says 130 = .ok (.getfield 77, 3) := by decide +kernel
theorem dX6_says_133 : decode cX6_says 133 = .ok (.iload_n 3, 1) := by decide +kernel
theorem dX6_says_134 : decode cX6_says 134 = .ok (.iaload, 1) := by decide +kernel
theorem dX6_says_135 : decode cX6_says 135 = .ok (.iload_n 2, 1) := by decide +kernel
theorem dX6_says_136 : decode cX6_says 136 = .ok (.invokevirtual 157, 3) := by decide +kernel
theorem dX6_says_139 : decode cX6_says 139 = .ok (.istore_n 2, 1) := by decide +kernel
theorem dX6_says_140 : decode cX6_says 140 = .ok (.goto 71, 3) := by decide +kernel
theorem dX6_says_143 : decode cX6_says 143 = .ok (.aload_n 0, 1) := by decide +kernel
theorem dX6_says_144 : decode cX6_says 144 = .ok (.getfield 74, 3) := by decide +kernel
theorem dX6_says_147 : decode cX6_says 147 = .ok (.iload_n 3, 1) := by decide +kernel
theorem dX6_says_148 : decode cX6_says 148 = .ok (.iaload, 1) := by decide +kernel
theorem dX6_says_149 : decode cX6_says 149 = .ok (.ifCond .ne 23, 3) := by decide +kernel
theorem dX6_says_152 : decode cX6_says 152 = .ok (.aload_n 0, 1) := by decide +kernel
theorem dX6_says_153 : decode cX6_says 153 = .ok (.aload_n 0, 1) := by decide +kernel
theorem dX6_says_154 : decode cX6_says 154 = .ok (.iload_n 2, 1) := by decide +kernel
theorem dX6_says_155 : decode cX6_says 155 = .ok (.aload_n 0, 1) := by decide +kernel
theorem dX6_says_156 : decode cX6_says 156 = .ok (.getfield 80, 3) := by decide +kernel
theorem dX6_says_159 : decode cX6_says 159 = .ok (.iload_n 3, 1) := by decide +kernel
theorem dX6_says_160 : decode cX6_says 160 = .ok (.iaload, 1) := by decide +kernel
theorem dX6_says_161 : decode cX6_says 161 = .ok (.iconst 0, 1) := by decide +kernel
theorem dX6_says_162 : decode cX6_says 162 = .ok (.invokevirtual 171, 3) := by decide +kernel
theorem dX6_says_165 : decode cX6_says 165 = .ok (.invokevirtual 159, 3) := by decide +kernel
theorem dX6_says_168 : decode cX6_says 168 = .ok (.istore_n 2, 1) := by decide +kernel
theorem dX6_says_169 : decode cX6_says 169 = .ok (.goto 42, 3) := by decide +kernel
theorem dX6_says_172 : decode cX6_says 172 = .ok (.aload_n 0, 1) := by decide +kernel
theorem dX6_says_173 : decode cX6_says 173 = .ok (.aload_n 0, 1) := by decide +kernel
theorem dX6_says_174 : decode cX6_says 174 = .ok (.getfield 77, 3) := by decide +kernel
theorem dX6_says_177 : decode cX6_says 177 = .ok (.iload_n 3, 1) := by decide +kernel
theorem dX6_says_178 : decode cX6_says 178 = .ok (.iaload, 1) := by decide +kernel
theorem dX6_says_179 : decode cX6_says 179 = .ok (.iload_n 2, 1) := by decide +kernel
theorem dX6_says_180 : decode cX6_says 180 = .ok (.invokevirtual 202, 3) := by decide +kernel
theorem dX6_says_183 : decode cX6_says 183 = .ok (.istore_n 2, 1) := by decide +kernel
theorem dX6_says_184 : decode cX6_says 184 = .ok (.aload_n 0, 1) := by decide +kernel
theorem dX6_says_185 : decode cX6_says 185 = .ok (.getfield 74, 3) := by decide +kernel
theorem dX6_says_188 : decode cX6_says 188 = .ok (.iload_n 3, 1) := by decide +kernel
theorem dX6_says_189 : decode cX6_says 189 = .ok (.iaload, 1) := by decide +kernel
theorem dX6_says_190 : decode cX6_says 190 = .ok (.iconst 4, 1) := by decide +kernel
theorem dX6_says_191 : decode cX6_says 191 = .ok (.if_icmp .ne 20, 3) := by decide +kernel
theorem dX6_says_194 : decode cX6_says 194 = .ok (.aload_n 0, 1) := by decide +kernel
theorem dX6_says_195 : decode cX6_says 195 = .ok (.aload_n 0, 1) := by decide +kernel
theorem dX6_says_196 : decode cX6_says 196 = .ok (.iload_n 2, 1) := by decide +kernel
theorem dX6_says_197 : decode cX6_says 197 = .ok (.aload_n 0, 1) := by decide +kernel
theorem dX6_says_198 : decode cX6_says 198 = .ok (.getfield 80, 3) := by decide +kernel
theorem dX6_says_201 : decode cX6_says 201 = .ok (.iload_n 3, 1) := by decide +kernel
theorem dX6_says_202 : decode cX6_says 202 = .ok (.iaload, 1) := by decide +kernel
theorem dX6_says_203 : decode cX6_says 203 = .ok (.iconst 0, 1) := by decide +kernel
theorem dX6_says_204 : decode cX6_says 204 = .ok (.invokevirtual 171, 3) := by decide +kernel
theorem dX6_says_207 : decode cX6_says 207 = .ok (.invokevirtual 159, 3) := by decide +kernel
theorem dX6_says_210 : decode cX6_says 210 = .ok (.istore_n 2, 1) := by decide +kernel
theorem dX6_says_211 : decode cX6_says 211 = .ok (.iinc 3 (-1), 3) := by decide +kernel
theorem dX6_says_214 : decode cX6_says 214 = .ok (.goto (-202), 3) := by decide +kernel
theorem dX6_says_217 : decode cX6_says 217 = .ok (.iload_n 2, 1) := by decide +kernel
theorem dX6_says_218 : decode cX6_says 218 = .ok (.ireturn, 1) := by decide +kernel
