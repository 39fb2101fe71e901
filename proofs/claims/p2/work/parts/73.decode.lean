theorem dX6_end_0 : decode cX6_end 0 = .ok (.aload_n 0, 1) := by decide +kernel
theorem dX6_end_1 : decode cX6_end 1 = .ok (.iconst 0, 1) := by decide +kernel
theorem dX6_end_2 : decode cX6_end 2 = .ok (.putfield 93, 3) := by decide +kernel
theorem dX6_end_5 : decode cX6_end 5 = .ok (.aload_n 0, 1) := by decide +kernel
theorem dX6_end_6 : decode cX6_end 6 = .ok (.getfield 187, 3) := by decide +kernel
theorem dX6_end_9 : decode cX6_end 9 = .ok (.ifCond .ne 9, 3) := by decide +kernel
theorem dX6_end_12 : decode cX6_end 12 = .ok (.aload_n 0, 1) := by decide +kernel
theorem dX6_end_13 : decode cX6_end 13 = .ok (.iconst 1, 1) := by decide +kernel
theorem dX6_end_14 : decode cX6_end 14 = .ok (.invokevirtual 208, 3) := by decide +kernel
theorem dX6_end_17 : decode cX6_end 17 = .ok (.ireturn, 1) := by decide +kernel
theorem dX6_end_18 : decode cX6_end 18 = .ok (.aload_n 0, 1) := by decide +kernel
theorem dX6_end_19 : decode cX6_end 19 = .ok (.getfield 187, 3) := by decide +kernel
theorem dX6_end_22 : decode cX6_end 22 = .ok (.iconst 1, 1) := by decide +kernel
theorem dX6_end_23 : decode cX6_end 23 = .ok (.isub, 1) := by decide +kernel
theorem dX6_end_24 : decode cX6_end 24 = .ok (.istore_n 1, 1) := by decide +kernel
theorem dX6_end_25 : decode cX6_end 25 = .ok (.aload_n 0, 1) := by decide +kernel
theorem dX6_end_26 : decode cX6_end 26 = .ok (.getfield 52, 3) := by decide +kernel
theorem dX6_end_29 : decode cX6_end 29 = .ok (.iload_n 1, 1) := by decide +kernel
theorem dX6_end_30 : decode cX6_end 30 = .ok (.iaload, 1) := by decide +kernel
theorem dX6_end_31 : decode cX6_end 31 = .ok (.iconst 2, 1) := by decide +kernel
theorem dX6_end_32 : decode cX6_end 32 = .ok (.if_icmp .ne 85, 3) := by decide +kernel
theorem dX6_end_35 : decode cX6_end 35 = .ok (.aload_n 0, 1) := by decide +kernel
theorem dX6_end_36 : decode cX6_end 36 = .ok (.getfield 113, 3) := by decide +kernel
theorem dX6_end_39 : decode cX6_end 39 = .ok (.istore_n 2, 1) := by decide +kernel
theorem dX6_end_40 : decode cX6_end 40 = .ok (.aload_n 0, 1) := by decide +kernel
theorem dX6_end_41 : decode cX6_end 41 = .ok (.getfield 116, 3) := by decide +kernel
theorem dX6_end_44 : decode cX6_end 44 = .ok (.istore_n 3, 1) := by decide +kernel
theorem dX6_end_45 : decode cX6_end 45 = .ok (.aload_n 0, 1) := by decide +kernel
theorem dX6_end_46 : decode cX6_end 46 = .ok (.iload_n 1, 1) := by decide +kernel
theorem dX6_end_47 : decode cX6_end 47 = .ok (.invokevirtual 256, 3) := by decide +kernel
theorem dX6_end_50 : decode cX6_end 50 = .ok (.istore 4, 2) := by decide +kernel
theorem dX6_end_52 : decode cX6_end 52 = .ok (.aload_n 0, 1) := by decide +kernel
theorem dX6_end_53 : decode cX6_end 53 = .ok (.iload 4, 2) := by decide +kernel
theorem dX6_end_55 : decode cX6_end 55 = .ok (.iconst 1, 1) := by decide +kernel
theorem dX6_end_56 : decode cX6_end 56 = .ok (.invokevirtual 227, 3) := by decide +kernel
theorem dX6_end_59 : decode cX6_end 59 = .ok (.istore 5, 2) := by decide +kernel
theorem dX6_end_61 : decode cX6_end 61 = .ok (.aload_n 0, 1) := by decide +kernel
theorem dX6_end_62 : decode cX6_end 62 = .ok (.getfield 93, 3) := by decide +kernel
theorem dX6_end_65 : decode cX6_end 65 = .ok (.ifCond .eq 11, 3) := by decide +kernel
theorem dX6_end_68 : decode cX6_end 68 = .ok (.aload_n 0, 1) := by decide +kernel
theorem dX6_end_69 : decode cX6_end 69 = .ok (.iload_n 2, 1) := by decide +kernel
theorem dX6_end_70 : decode cX6_end 70 = .ok (.iload_n 3, 1) := by decide +kernel
theorem dX6_end_71 : decode cX6_end 71 = .ok (.invokevirtual 137, 3) := by decide +kernel
theorem dX6_end_74 : decode cX6_end 74 = .ok (.iconst 0, 1) := by decide +kernel
theorem dX6_end_75 : decode cX6_end 75 = .ok (.ireturn, 1) := by decide +kernel
theorem dX6_end_76 : decode cX6_end 76 = .ok (.aload_n 0, 1) := by decide +kernel
theorem dX6_end_77 : decode cX6_end 77 = .ok (.getfield 90, 3) := by decide +kernel
theorem dX6_end_80 : decode cX6_end 80 = .ok (.iload 5, 2) := by decide +kernel
theorem dX6_end_82 : decode cX6_end 82 = .ok (.aload_n 0, 1) := by decide +kernel
theorem dX6_end_83 : decode cX6_end 83 = .ok (.iload 4, 2) := by decide +kernel
theorem dX6_end_85 : decode cX6_end 85 = .ok (.iload_n 2, 1) := by decide +kernel
theorem dX6_end_86 : decode cX6_end 86 = .ok (.iload_n 3, 1) := by decide +kernel
theorem dX6_end_87 : decode cX6_end 87 = .ok (.invokevirtual 196, 3) := by decide +kernel
theorem dX6_end_90 : decode cX6_end 90 = .ok (.iastore, 1) := by decide +kernel
theorem dX6_end_91 : decode cX6_end 91 = .ok (.aload_n 0, 1) := by decide +kernel
theorem dX6_end_92 : decode cX6_end 92 = .ok (.aload_n 0, 1) := by decide +kernel
theorem dX6_end_93 : decode cX6_end 93 = .ok (.getfield 61, 3) := by decide +kernel
theorem dX6_end_96 : decode cX6_end 96 = .ok (.iload_n 1, 1) := by decide +kernel
theorem dX6_end_97 : decode cX6_end 97 = .ok (.iaload, 1) := by decide +kernel
theorem dX6_end_98 : decode cX6_end 98 = .ok (.putfield 190, 3) := by decide +kernel
theorem dX6_end_101 : decode cX6_end 101 = .ok (.aload_n 0, 1) := by decide +kernel
theorem dX6_end_102 : decode cX6_end 102 = .ok (.dup, 1) := by decide +kernel
theorem dX6_end_103 : decode cX6_end 103 = .ok (.getfield 187, 3) := by decide +kernel
theorem dX6_end_106 : decode cX6_end 106 = .ok (.iconst 1, 1) := by decide +kernel
theorem dX6_end_107 : decode cX6_end 107 = .ok (.isub, 1) := by decide +kernel
theorem dX6_end_108 : decode cX6_end 108 = .ok (.putfield 187, 3) := by decide +kernel
theorem dX6_end_111 : decode cX6_end 111 = .ok (.bipush (-2), 2) := by decide +kernel
theorem dX6_end_113 : decode cX6_end 113 = .ok (.iload 5, 2) := by decide +kernel
theorem dX6_end_115 : decode cX6_end 115 = .ok (.isub, 1) := by decide +kernel
theorem dX6_end_116 : decode cX6_end 116 = .ok (.ireturn, 1) := by decide +kernel
theorem dX6_end_117 : decode cX6_end 117 = .ok (.aload_n 0, 1) := by decide +kernel
theorem dX6_end_118 : decode cX6_end 118 = .ok (.getfield 67, 3) := by decide +kernel
theorem dX6_end_121 : decode cX6_end 121 = .ok (.iload_n 1, 1) := by decide +kernel
theorem dX6_end_122 : decode cX6_end 122 = .ok (.baload, 1) := by decide +kernel
theorem dX6_end_123 : decode cX6_end 123 = .ok (.ifCond .eq 29, 3) := by decide +kernel
theorem dX6_end_126 : decode cX6_end 126 = .ok (.aload_n 0, 1) := by decide +kernel
theorem dX6_end_127 : decode cX6_end 127 = .ok (.getfield 58, 3) := by decide +kernel
theorem dX6_end_130 : decode cX6_end 130 = .ok (.iload_n 1, 1) := by decide +kernel
theorem dX6_end_131 : decode cX6_end 131 = .ok (.iaload, 1) := by decide +kernel
theorem dX6_end_132 : decode cX6_end 132 = .ok (.ifCond .le 16, 3) := by decide +kernel
theorem dX6_end_135 : decode cX6_end 135 = .ok (.aload_n 0, 1) := by decide +kernel
theorem dX6_end_136 : decode cX6_end 136 = .ok (.getfield 71, 3) := by decide +kernel
theorem dX6_end_139 : decode cX6_end 139 = .ok (.iload_n 1, 1) := by decide +kernel
theorem dX6_end_140 : decode cX6_end 140 = .ok (.baload, 1) := by decide +kernel
theorem dX6_end_141 : decode cX6_end 141 = .ok (.ifCond .eq 7, 3) := by decide +kernel
theorem dX6_end_144 : decode cX6_end 144 = .ok (.iconst 1, 1) := by decide +kernel
theorem dX6_end_145 : decode cX6_end 145 = .ok (.goto 27, 3) := by decide +kernel
theorem dX6_end_148 : decode cX6_end 148 = .ok (.iconst 0, 1) := by decide +kernel
theorem dX6_end_149 : decode cX6_end 149 = .ok (.goto 23, 3) := by decide +kernel
theorem dX6_end_152 : decode cX6_end 152 = .ok (.aload_n 0, 1) := by decide +kernel
theorem dX6_end_153 : decode cX6_end 153 = .ok (.getfield 7, 3) := by decide +kernel
theorem dX6_end_156 : decode cX6_end 156 = .ok (.aload_n 0, 1) := by decide +kernel
theorem dX6_end_157 : decode cX6_end 157 = .ok (.getfield 55, 3) := by decide +kernel
theorem dX6_end_160 : decode cX6_end 160 = .ok (.iload_n 1, 1) := by decide +kernel
theorem dX6_end_161 : decode cX6_end 161 = .ok (.iaload, 1) := by decide +kernel
theorem dX6_end_162 : decode cX6_end 162 = .ok (.iaload, 1) := by decide +kernel
theorem dX6_end_163 : decode cX6_end 163 = .ok (.iconst 3, 1) := by decide +kernel
theorem dX6_end_164 : decode cX6_end 164 = .ok (.if_icmp .ne 7, 3) := by decide +kernel
theorem dX6_end_167 : decode cX6_end 167 = .ok (.iconst 1, 1) := by decide +kernel
theorem dX6_end_168 : decode cX6_end 168 = .ok (.goto 4, 3) := by decide +kernel
theorem dX6_end_171 : decode cX6_end 171 = .ok (.iconst 0, 1) := by decide +kernel
theorem dX6_end_172 : decode cX6_end 172 = .ok (.istore_n 2, 1) := by decide +kernel
theorem dX6_end_173 : decode cX6_end 173 = .ok (.aload_n 0, 1) := by decide +kernel
theorem dX6_end_174 : decode cX6_end 174 = .ok (.getfield 67, 3) := by decide +kernel
theorem dX6_end_177 : decode cX6_end 177 = .ok (.iload_n 1, 1) := by decide +kernel
theorem dX6_end_178 : decode cX6_end 178 = .ok (.baload, 1) := by decide +kernel
theorem dX6_end_179 : decode cX6_end 179 = .ok (.ifCond .eq 13, 3) := by decide +kernel
theorem dX6_end_182 : decode cX6_end 182 = .ok (.aload_n 0, 1) := by decide +kernel
theorem dX6_end_183 : decode cX6_end 183 = .ok (.aload_n 0, 1) := by decide +kernel
theorem dX6_end_184 : decode cX6_end 184 = .ok (.getfield 64, 3) := by decide +kernel
theorem dX6_end_187 : decode cX6_end 187 = .ok (.iload_n 1, 1) := by decide +kernel
theorem dX6_end_188 : decode cX6_end 188 = .ok (.iaload, 1) := by decide +kernel
theorem dX6_end_189 : decode cX6_end 189 = .ok (.putfield 253, 3) := by decide +kernel
theorem dX6_end_192 : decode cX6_end 192 = .ok (.aload_n 0, 1) := by decide +kernel
theorem dX6_end_193 : decode cX6_end 193 = .ok (.dup, 1) := by decide +kernel
theorem dX6_end_194 : decode cX6_end 194 = .ok (.getfield 187, 3) := by decide +kernel
theorem dX6_end_197 : decode cX6_end 197 = .ok (.iconst 1, 1) := by decide +kernel
theorem dX6_end_198 : decode cX6_end 198 = .ok (.isub, 1) := by decide +kernel
theorem dX6_end_199 : decode cX6_end 199 = .ok (.putfield 187, 3) := by decide +kernel
theorem dX6_end_202 : decode cX6_end 202 = .ok (.aload_n 0, 1) := by decide +kernel
theorem dX6_end_203 : decode cX6_end 203 = .ok (.getfield 52, 3) := by decide +kernel
theorem dX6_end_206 : decode cX6_end 206 = .ok (.iload_n 1, 1) := by decide +kernel
theorem dX6_end_207 : decode cX6_end 207 = .ok (.iaload, 1) := by decide +kernel
theorem dX6_end_208 : decode cX6_end 208 = .ok (.iconst 3, 1) := by decide +kernel
theorem dX6_end_209 : decode cX6_end 209 = .ok (.if_icmp .ne 16, 3) := by decide +kernel
theorem dX6_end_212 : decode cX6_end 212 = .ok (.iload_n 2, 1) := by decide +kernel
theorem dX6_end_213 : decode cX6_end 213 = .ok (.ifCond .ne 12, 3) := by decide +kernel
theorem dX6_end_216 : decode cX6_end 216 = .ok (.aload_n 0, 1) := by decide +kernel
theorem dX6_end_217 : decode cX6_end 217 = .ok (.getfield 71, 3) := by decide +kernel
theorem dX6_end_220 : decode cX6_end 220 = .ok (.iload_n 1, 1) := by decide +kernel
theorem dX6_end_221 : decode cX6_end 221 = .ok (.iconst 1, 1) := by decide +kernel
theorem dX6_end_222 : decode cX6_end 222 = .ok (.isub, 1) := by decide +kernel
theorem dX6_end_223 : decode cX6_end 223 = .ok (.iconst 0, 1) := by decide +kernel
theorem dX6_end_224 : decode cX6_end 224 = .ok (.bastore, 1) := by decide +kernel
theorem dX6_end_225 : decode cX6_end 225 = .ok (.iload_n 2, 1) := by decide +kernel
theorem dX6_end_226 : decode cX6_end 226 = .ok (.ifCond .eq 7, 3) := by decide +kernel
theorem dX6_end_229 : decode cX6_end 229 = .ok (.iconst 1, 1) := by decide +kernel
theorem dX6_end_230 : decode cX6_end 230 = .ok (.goto 4, 3) := by decide +kernel
theorem dX6_end_233 : decode cX6_end 233 = .ok (.iconst 0, 1) := by decide +kernel
theorem dX6_end_234 : decode cX6_end 234 = .ok (.ireturn, 1) := by decide +kernel
