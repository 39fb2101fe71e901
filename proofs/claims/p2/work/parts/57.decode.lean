theorem dX6_leaves_0 : decode cX6_leaves 0 = .ok (.aload_n 0, 1) := by decide +kernel
theorem dX6_leaves_1 : decode cX6_leaves 1 = .ok (.getfield 7, 3) := by decide +kernel
theorem dX6_leaves_4 : decode cX6_leaves 4 = .ok (.iload_n 1, 1) := by decide +kernel
theorem dX6_leaves_5 : decode cX6_leaves 5 = .ok (.iaload, 1) := by decide +kernel
theorem dX6_leaves_6 : decode cX6_leaves 6 = .ok (.bipush 6, 2) := by decide +kernel
theorem dX6_leaves_8 : decode cX6_leaves 8 = .ok (.if_icmp .ne 7, 3) := by decide +kernel
theorem dX6_leaves_11 : decode cX6_leaves 11 = .ok (.iconst 1, 1) := by decide +kernel
theorem dX6_leaves_12 : decode cX6_leaves 12 = .ok (.goto 4, 3) := by decide +kernel
theorem dX6_leaves_15 : decode cX6_leaves 15 = .ok (.iconst 0, 1) := by decide +kernel
theorem dX6_leaves_16 : decode cX6_leaves 16 = .ok (.istore 4, 2) := by decide +kernel
theorem dX6_leaves_18 : decode cX6_leaves 18 = .ok (.iload 4, 2) := by decide +kernel
theorem dX6_leaves_20 : decode cX6_leaves 20 = .ok (.ifCond .eq 12, 3) := by decide +kernel
theorem dX6_leaves_23 : decode cX6_leaves 23 = .ok (.aload_n 0, 1) := by decide +kernel
theorem dX6_leaves_24 : decode cX6_leaves 24 = .ok (.iload_n 1, 1) := by decide +kernel
theorem dX6_leaves_25 : decode cX6_leaves 25 = .ok (.iconst 0, 1) := by decide +kernel
theorem dX6_leaves_26 : decode cX6_leaves 26 = .ok (.invokevirtual 110, 3) := by decide +kernel
theorem dX6_leaves_29 : decode cX6_leaves 29 = .ok (.goto 4, 3) := by decide +kernel
theorem dX6_leaves_32 : decode cX6_leaves 32 = .ok (.iload_n 1, 1) := by decide +kernel
theorem dX6_leaves_33 : decode cX6_leaves 33 = .ok (.istore 5, 2) := by decide +kernel
theorem dX6_leaves_35 : decode cX6_leaves 35 = .ok (.iload_n 2, 1) := by decide +kernel
theorem dX6_leaves_36 : decode cX6_leaves 36 = .ok (.tableswitch 163 0 3 #[32, 99, 163, 60], 32) := by decide +kernel
theorem dX6_leaves_68 : decode cX6_leaves 68 = .ok (.aload_n 0, 1) := by decide +kernel
theorem dX6_leaves_69 : decode cX6_leaves 69 = .ok (.getfield 7, 3) := by decide +kernel
theorem dX6_leaves_72 : decode cX6_leaves 72 = .ok (.iload_n 1, 1) := by decide +kernel
theorem dX6_leaves_73 : decode cX6_leaves 73 = .ok (.iaload, 1) := by decide +kernel
theorem dX6_leaves_74 : decode cX6_leaves 74 = .ok (.bipush 8, 2) := by decide +kernel
theorem dX6_leaves_76 : decode cX6_leaves 76 = .ok (.if_icmp .ne 18, 3) := by decide +kernel
theorem dX6_leaves_79 : decode cX6_leaves 79 = .ok (.aload_n 0, 1) := by decide +kernel
theorem dX6_leaves_80 : decode cX6_leaves 80 = .ok (.aload_n 0, 1) := by decide +kernel
theorem dX6_leaves_81 : decode cX6_leaves 81 = .ok (.iload_n 1, 1) := by decide +kernel
theorem dX6_leaves_82 : decode cX6_leaves 82 = .ok (.iconst 0, 1) := by decide +kernel
theorem dX6_leaves_83 : decode cX6_leaves 83 = .ok (.invokevirtual 110, 3) := by decide +kernel
theorem dX6_leaves_86 : decode cX6_leaves 86 = .ok (.iconst 0, 1) := by decide +kernel
theorem dX6_leaves_87 : decode cX6_leaves 87 = .ok (.iload_n 3, 1) := by decide +kernel
theorem dX6_leaves_88 : decode cX6_leaves 88 = .ok (.invokevirtual 165, 3) := by decide +kernel
theorem dX6_leaves_91 : decode cX6_leaves 91 = .ok (.goto 4, 3) := by decide +kernel
theorem dX6_leaves_94 : decode cX6_leaves 94 = .ok (.iconst 0, 1) := by decide +kernel
theorem dX6_leaves_95 : decode cX6_leaves 95 = .ok (.ireturn, 1) := by decide +kernel
theorem dX6_leaves_96 : decode cX6_leaves 96 = .ok (.iload 4, 2) := by decide +kernel
theorem dX6_leaves_98 : decode cX6_leaves 98 = .ok (.ifCond .eq 35, 3) := by decide +kernel
theorem dX6_leaves_101 : decode cX6_leaves 101 = .ok (.aload_n 0, 1) := by decide +kernel
theorem dX6_leaves_102 : decode cX6_leaves 102 = .ok (.getfield 7, 3) := by decide +kernel
theorem dX6_leaves_105 : decode cX6_leaves 105 = .ok (.iload 5, 2) := by decide +kernel
theorem dX6_leaves_107 : decode cX6_leaves 107 = .ok (.iaload, 1) := by decide +kernel
theorem dX6_leaves_108 : decode cX6_leaves 108 = .ok (.bipush 8, 2) := by decide +kernel
theorem dX6_leaves_110 : decode cX6_leaves 110 = .ok (.if_icmp .ne 23, 3) := by decide +kernel
theorem dX6_leaves_113 : decode cX6_leaves 113 = .ok (.aload_n 0, 1) := by decide +kernel
theorem dX6_leaves_114 : decode cX6_leaves 114 = .ok (.aload_n 0, 1) := by decide +kernel
theorem dX6_leaves_115 : decode cX6_leaves 115 = .ok (.aload_n 0, 1) := by decide +kernel
theorem dX6_leaves_116 : decode cX6_leaves 116 = .ok (.iload 5, 2) := by decide +kernel
theorem dX6_leaves_118 : decode cX6_leaves 118 = .ok (.iconst 0, 1) := by decide +kernel
theorem dX6_leaves_119 : decode cX6_leaves 119 = .ok (.invokevirtual 110, 3) := by decide +kernel
theorem dX6_leaves_122 : decode cX6_leaves 122 = .ok (.iconst 0, 1) := by decide +kernel
theorem dX6_leaves_123 : decode cX6_leaves 123 = .ok (.iload_n 3, 1) := by decide +kernel
theorem dX6_leaves_124 : decode cX6_leaves 124 = .ok (.invokevirtual 165, 3) := by decide +kernel
theorem dX6_leaves_127 : decode cX6_leaves 127 = .ok (.invokevirtual 154, 3) := by decide +kernel
theorem dX6_leaves_130 : decode cX6_leaves 130 = .ok (.goto 4, 3) := by decide +kernel
theorem dX6_leaves_133 : decode cX6_leaves 133 = .ok (.iconst 0, 1) := by decide +kernel
theorem dX6_leaves_134 : decode cX6_leaves 134 = .ok (.ireturn, 1) := by decide +kernel
theorem dX6_leaves_135 : decode cX6_leaves 135 = .ok (.iload 4, 2) := by decide +kernel
theorem dX6_leaves_137 : decode cX6_leaves 137 = .ok (.ifCond .eq 25, 3) := by decide +kernel
theorem dX6_leaves_140 : decode cX6_leaves 140 = .ok (.aload_n 0, 1) := by decide +kernel
theorem dX6_leaves_141 : decode cX6_leaves 141 = .ok (.getfield 7, 3) := by decide +kernel
theorem dX6_leaves_144 : decode cX6_leaves 144 = .ok (.iload 5, 2) := by decide +kernel
theorem dX6_leaves_146 : decode cX6_leaves 146 = .ok (.iaload, 1) := by decide +kernel
theorem dX6_leaves_147 : decode cX6_leaves 147 = .ok (.bipush 7, 2) := by decide +kernel
theorem dX6_leaves_149 : decode cX6_leaves 149 = .ok (.if_icmp .ne 13, 3) := by decide +kernel
theorem dX6_leaves_152 : decode cX6_leaves 152 = .ok (.aload_n 0, 1) := by decide +kernel
theorem dX6_leaves_153 : decode cX6_leaves 153 = .ok (.iload 5, 2) := by decide +kernel
theorem dX6_leaves_155 : decode cX6_leaves 155 = .ok (.iload_n 3, 1) := by decide +kernel
theorem dX6_leaves_156 : decode cX6_leaves 156 = .ok (.invokevirtual 184, 3) := by decide +kernel
theorem dX6_leaves_159 : decode cX6_leaves 159 = .ok (.goto 4, 3) := by decide +kernel
theorem dX6_leaves_162 : decode cX6_leaves 162 = .ok (.iconst 0, 1) := by decide +kernel
theorem dX6_leaves_163 : decode cX6_leaves 163 = .ok (.istore 6, 2) := by decide +kernel
theorem dX6_leaves_165 : decode cX6_leaves 165 = .ok (.iload 6, 2) := by decide +kernel
theorem dX6_leaves_167 : decode cX6_leaves 167 = .ok (.ifCond .le 10, 3) := by decide +kernel
theorem dX6_leaves_170 : decode cX6_leaves 170 = .ok (.aload_n 0, 1) := by decide +kernel
theorem dX6_leaves_171 : decode cX6_leaves 171 = .ok (.iload 6, 2) := by decide +kernel
theorem dX6_leaves_173 : decode cX6_leaves 173 = .ok (.invokevirtual 154, 3) := by decide +kernel
theorem dX6_leaves_176 : decode cX6_leaves 176 = .ok (.ireturn, 1) := by decide +kernel
theorem dX6_leaves_177 : decode cX6_leaves 177 = .ok (.iload_n 3, 1) := by decide +kernel
theorem dX6_leaves_178 : decode cX6_leaves 178 = .ok (.aload_n 0, 1) := by decide +kernel
theorem dX6_leaves_179 : decode cX6_leaves 179 = .ok (.iload_n 1, 1) := by decide +kernel
theorem dX6_leaves_180 : decode cX6_leaves 180 = .ok (.invokevirtual 154, 3) := by decide +kernel
theorem dX6_leaves_183 : decode cX6_leaves 183 = .ok (.if_icmp .ne 14, 3) := by decide +kernel
theorem dX6_leaves_186 : decode cX6_leaves 186 = .ok (.aload_n 0, 1) := by decide +kernel
theorem dX6_leaves_187 : decode cX6_leaves 187 = .ok (.aload_n 0, 1) := by decide +kernel
theorem dX6_leaves_188 : decode cX6_leaves 188 = .ok (.invokevirtual 147, 3) := by decide +kernel
theorem dX6_leaves_191 : decode cX6_leaves 191 = .ok (.invokevirtual 154, 3) := by decide +kernel
theorem dX6_leaves_194 : decode cX6_leaves 194 = .ok (.goto 4, 3) := by decide +kernel
theorem dX6_leaves_197 : decode cX6_leaves 197 = .ok (.iconst 0, 1) := by decide +kernel
theorem dX6_leaves_198 : decode cX6_leaves 198 = .ok (.ireturn, 1) := by decide +kernel
theorem dX6_leaves_199 : decode cX6_leaves 199 = .ok (.iload_n 3, 1) := by decide +kernel
theorem dX6_leaves_200 : decode cX6_leaves 200 = .ok (.iload_n 1, 1) := by decide +kernel
theorem dX6_leaves_201 : decode cX6_leaves 201 = .ok (.if_icmp .ne 10, 3) := by decide +kernel
theorem dX6_leaves_204 : decode cX6_leaves 204 = .ok (.aload_n 0, 1) := by decide +kernel
theorem dX6_leaves_205 : decode cX6_leaves 205 = .ok (.invokevirtual 147, 3) := by decide +kernel
theorem dX6_leaves_208 : decode cX6_leaves 208 = .ok (.goto 24, 3) := by decide +kernel
theorem dX6_leaves_211 : decode cX6_leaves 211 = .ok (.aload_n 0, 1) := by decide +kernel
theorem dX6_leaves_212 : decode cX6_leaves 212 = .ok (.getfield 7, 3) := by decide +kernel
theorem dX6_leaves_215 : decode cX6_leaves 215 = .ok (.iload_n 1, 1) := by decide +kernel
theorem dX6_leaves_216 : decode cX6_leaves 216 = .ok (.iaload, 1) := by decide +kernel
theorem dX6_leaves_217 : decode cX6_leaves 217 = .ok (.bipush 7, 2) := by decide +kernel
theorem dX6_leaves_219 : decode cX6_leaves 219 = .ok (.if_icmp .ne 12, 3) := by decide +kernel
theorem dX6_leaves_222 : decode cX6_leaves 222 = .ok (.aload_n 0, 1) := by decide +kernel
theorem dX6_leaves_223 : decode cX6_leaves 223 = .ok (.iload_n 1, 1) := by decide +kernel
theorem dX6_leaves_224 : decode cX6_leaves 224 = .ok (.iload_n 3, 1) := by decide +kernel
theorem dX6_leaves_225 : decode cX6_leaves 225 = .ok (.invokevirtual 184, 3) := by decide +kernel
theorem dX6_leaves_228 : decode cX6_leaves 228 = .ok (.goto 4, 3) := by decide +kernel
theorem dX6_leaves_231 : decode cX6_leaves 231 = .ok (.iconst 0, 1) := by decide +kernel
theorem dX6_leaves_232 : decode cX6_leaves 232 = .ok (.ireturn, 1) := by decide +kernel
