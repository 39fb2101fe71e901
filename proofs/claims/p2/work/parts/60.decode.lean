theorem dX6_step_0 : decode cX6_step 0 = .ok (.aload_n 0, 1) := by decide +kernel
theorem dX6_step_1 : decode cX6_step 1 = .ok (.getfield 187, 3) := by decide +kernel
theorem dX6_step_4 : decode cX6_step 4 = .ok (.iconst 1, 1) := by decide +kernel
theorem dX6_step_5 : decode cX6_step 5 = .ok (.isub, 1) := by decide +kernel
theorem dX6_step_6 : decode cX6_step 6 = .ok (.istore 4, 2) := by decide +kernel
theorem dX6_step_8 : decode cX6_step 8 = .ok (.aload_n 0, 1) := by decide +kernel
theorem dX6_step_9 : decode cX6_step 9 = .ok (.getfield 52, 3) := by decide +kernel
theorem dX6_step_12 : decode cX6_step 12 = .ok (.iload 4, 2) := by decide +kernel
theorem dX6_step_14 : decode cX6_step 14 = .ok (.iaload, 1) := by decide +kernel
theorem dX6_step_15 : decode cX6_step 15 = .ok (.iconst 2, 1) := by decide +kernel
theorem dX6_step_16 : decode cX6_step 16 = .ok (.if_icmp .ne 91, 3) := by decide +kernel
theorem dX6_step_19 : decode cX6_step 19 = .ok (.aload_n 0, 1) := by decide +kernel
theorem dX6_step_20 : decode cX6_step 20 = .ok (.aload_n 0, 1) := by decide +kernel
theorem dX6_step_21 : decode cX6_step 21 = .ok (.getfield 74, 3) := by decide +kernel
theorem dX6_step_24 : decode cX6_step 24 = .ok (.aload_n 0, 1) := by decide +kernel
theorem dX6_step_25 : decode cX6_step 25 = .ok (.getfield 190, 3) := by decide +kernel
theorem dX6_step_28 : decode cX6_step 28 = .ok (.invokestatic 106, 3) := by decide +kernel
theorem dX6_step_31 : decode cX6_step 31 = .ok (.putfield 74, 3) := by decide +kernel
theorem dX6_step_34 : decode cX6_step 34 = .ok (.aload_n 0, 1) := by decide +kernel
theorem dX6_step_35 : decode cX6_step 35 = .ok (.aload_n 0, 1) := by decide +kernel
theorem dX6_step_36 : decode cX6_step 36 = .ok (.getfield 77, 3) := by decide +kernel
theorem dX6_step_39 : decode cX6_step 39 = .ok (.aload_n 0, 1) := by decide +kernel
theorem dX6_step_40 : decode cX6_step 40 = .ok (.getfield 190, 3) := by decide +kernel
theorem dX6_step_43 : decode cX6_step 43 = .ok (.invokestatic 106, 3) := by decide +kernel
theorem dX6_step_46 : decode cX6_step 46 = .ok (.putfield 77, 3) := by decide +kernel
theorem dX6_step_49 : decode cX6_step 49 = .ok (.aload_n 0, 1) := by decide +kernel
theorem dX6_step_50 : decode cX6_step 50 = .ok (.aload_n 0, 1) := by decide +kernel
theorem dX6_step_51 : decode cX6_step 51 = .ok (.getfield 80, 3) := by decide +kernel
theorem dX6_step_54 : decode cX6_step 54 = .ok (.aload_n 0, 1) := by decide +kernel
theorem dX6_step_55 : decode cX6_step 55 = .ok (.getfield 190, 3) := by decide +kernel
theorem dX6_step_58 : decode cX6_step 58 = .ok (.invokestatic 106, 3) := by decide +kernel
theorem dX6_step_61 : decode cX6_step 61 = .ok (.putfield 80, 3) := by decide +kernel
theorem dX6_step_64 : decode cX6_step 64 = .ok (.aload_n 0, 1) := by decide +kernel
theorem dX6_step_65 : decode cX6_step 65 = .ok (.getfield 74, 3) := by decide +kernel
theorem dX6_step_68 : decode cX6_step 68 = .ok (.aload_n 0, 1) := by decide +kernel
theorem dX6_step_69 : decode cX6_step 69 = .ok (.getfield 190, 3) := by decide +kernel
theorem dX6_step_72 : decode cX6_step 72 = .ok (.iload_n 1, 1) := by decide +kernel
theorem dX6_step_73 : decode cX6_step 73 = .ok (.iastore, 1) := by decide +kernel
theorem dX6_step_74 : decode cX6_step 74 = .ok (.aload_n 0, 1) := by decide +kernel
theorem dX6_step_75 : decode cX6_step 75 = .ok (.getfield 77, 3) := by decide +kernel
theorem dX6_step_78 : decode cX6_step 78 = .ok (.aload_n 0, 1) := by decide +kernel
theorem dX6_step_79 : decode cX6_step 79 = .ok (.getfield 190, 3) := by decide +kernel
theorem dX6_step_82 : decode cX6_step 82 = .ok (.iload_n 2, 1) := by decide +kernel
theorem dX6_step_83 : decode cX6_step 83 = .ok (.iastore, 1) := by decide +kernel
theorem dX6_step_84 : decode cX6_step 84 = .ok (.aload_n 0, 1) := by decide +kernel
theorem dX6_step_85 : decode cX6_step 85 = .ok (.getfield 80, 3) := by decide +kernel
theorem dX6_step_88 : decode cX6_step 88 = .ok (.aload_n 0, 1) := by decide +kernel
theorem dX6_step_89 : decode cX6_step 89 = .ok (.dup, 1) := by decide +kernel
theorem dX6_step_90 : decode cX6_step 90 = .ok (.getfield 190, 3) := by decide +kernel
theorem dX6_step_93 : decode cX6_step 93 = .ok (.dup_x1, 1) := by decide +kernel
theorem dX6_step_94 : decode cX6_step 94 = .ok (.iconst 1, 1) := by decide +kernel
theorem dX6_step_95 : decode cX6_step 95 = .ok (.iadd, 1) := by decide +kernel
theorem dX6_step_96 : decode cX6_step 96 = .ok (.putfield 190, 3) := by decide +kernel
theorem dX6_step_99 : decode cX6_step 99 = .ok (.iload_n 3, 1) := by decide +kernel
theorem dX6_step_100 : decode cX6_step 100 = .ok (.iastore, 1) := by decide +kernel
theorem dX6_step_101 : decode cX6_step 101 = .ok (.aload_n 0, 1) := by decide +kernel
theorem dX6_step_102 : decode cX6_step 102 = .ok (.iconst 1, 1) := by decide +kernel
theorem dX6_step_103 : decode cX6_step 103 = .ok (.putfield 86, 3) := by decide +kernel
theorem dX6_step_106 : decode cX6_step 106 = .ok (.return_, 1) := by decide +kernel
theorem dX6_step_107 : decode cX6_step 107 = .ok (.aload_n 0, 1) := by decide +kernel
theorem dX6_step_108 : decode cX6_step 108 = .ok (.getfield 113, 3) := by decide +kernel
theorem dX6_step_111 : decode cX6_step 111 = .ok (.istore 5, 2) := by decide +kernel
theorem dX6_step_113 : decode cX6_step 113 = .ok (.aload_n 0, 1) := by decide +kernel
theorem dX6_step_114 : decode cX6_step 114 = .ok (.getfield 116, 3) := by decide +kernel
theorem dX6_step_117 : decode cX6_step 117 = .ok (.istore 6, 2) := by decide +kernel
theorem dX6_step_119 : decode cX6_step 119 = .ok (.iload_n 1, 1) := by decide +kernel
theorem dX6_step_120 : decode cX6_step 120 = .ok (.iconst 4, 1) := by decide +kernel
theorem dX6_step_121 : decode cX6_step 121 = .ok (.if_icmp .ne 25, 3) := by decide +kernel
theorem dX6_step_124 : decode cX6_step 124 = .ok (.aload_n 0, 1) := by decide +kernel
theorem dX6_step_125 : decode cX6_step 125 = .ok (.aload_n 0, 1) := by decide +kernel
theorem dX6_step_126 : decode cX6_step 126 = .ok (.aload_n 0, 1) := by decide +kernel
theorem dX6_step_127 : decode cX6_step 127 = .ok (.aload_n 0, 1) := by decide +kernel
theorem dX6_step_128 : decode cX6_step 128 = .ok (.iload_n 2, 1) := by decide +kernel
theorem dX6_step_129 : decode cX6_step 129 = .ok (.invokevirtual 154, 3) := by decide +kernel
theorem dX6_step_132 : decode cX6_step 132 = .ok (.iload_n 3, 1) := by decide +kernel
theorem dX6_step_133 : decode cX6_step 133 = .ok (.iconst 0, 1) := by decide +kernel
theorem dX6_step_134 : decode cX6_step 134 = .ok (.invokevirtual 171, 3) := by decide +kernel
theorem dX6_step_137 : decode cX6_step 137 = .ok (.invokevirtual 159, 3) := by decide +kernel
theorem dX6_step_140 : decode cX6_step 140 = .ok (.invokevirtual 154, 3) := by decide +kernel
theorem dX6_step_143 : decode cX6_step 143 = .ok (.goto 4, 3) := by decide +kernel
theorem dX6_step_146 : decode cX6_step 146 = .ok (.iload_n 2, 1) := by decide +kernel
theorem dX6_step_147 : decode cX6_step 147 = .ok (.istore 7, 2) := by decide +kernel
theorem dX6_step_149 : decode cX6_step 149 = .ok (.aload_n 0, 1) := by decide +kernel
theorem dX6_step_150 : decode cX6_step 150 = .ok (.getfield 55, 3) := by decide +kernel
theorem dX6_step_153 : decode cX6_step 153 = .ok (.iload 4, 2) := by decide +kernel
theorem dX6_step_155 : decode cX6_step 155 = .ok (.iaload, 1) := by decide +kernel
theorem dX6_step_156 : decode cX6_step 156 = .ok (.istore 8, 2) := by decide +kernel
theorem dX6_step_158 : decode cX6_step 158 = .ok (.iconst 0, 1) := by decide +kernel
theorem dX6_step_159 : decode cX6_step 159 = .ok (.istore 9, 2) := by decide +kernel
theorem dX6_step_161 : decode cX6_step 161 = .ok (.iconst 0, 1) := by decide +kernel
theorem dX6_step_162 : decode cX6_step 162 = .ok (.istore 10, 2) := by decide +kernel
theorem dX6_step_164 : decode cX6_step 164 = .ok (.iload 10, 2) := by decide +kernel
theorem dX6_step_166 : decode cX6_step 166 = .ok (.bipush 20, 2) := by decide +kernel
theorem dX6_step_168 : decode cX6_step 168 = .ok (.if_icmp .gt 52, 3) := by decide +kernel
theorem dX6_step_171 : decode cX6_step 171 = .ok (.iload 8, 2) := by decide +kernel
theorem dX6_step_173 : decode cX6_step 173 = .ok (.ifCond .le 47, 3) := by decide +kernel
theorem dX6_step_176 : decode cX6_step 176 = .ok (.iload 9, 2) := by decide +kernel
theorem dX6_step_178 : decode cX6_step 178 = .ok (.ifCond .ne 42, 3) := by decide +kernel
theorem dX6_step_181 : decode cX6_step 181 = .ok (.aload_n 0, 1) := by decide +kernel
theorem dX6_step_182 : decode cX6_step 182 = .ok (.iload 8, 2) := by decide +kernel
theorem dX6_step_184 : decode cX6_step 184 = .ok (.iload_n 1, 1) := by decide +kernel
theorem dX6_step_185 : decode cX6_step 185 = .ok (.iconst 4, 1) := by decide +kernel
theorem dX6_step_186 : decode cX6_step 186 = .ok (.if_icmp .ne 7, 3) := by decide +kernel
theorem dX6_step_189 : decode cX6_step 189 = .ok (.iconst 1, 1) := by decide +kernel
theorem dX6_step_190 : decode cX6_step 190 = .ok (.goto 4, 3) := by decide +kernel
theorem dX6_step_193 : decode cX6_step 193 = .ok (.iload_n 1, 1) := by decide +kernel
theorem dX6_step_194 : decode cX6_step 194 = .ok (.iload 7, 2) := by decide +kernel
theorem dX6_step_196 : decode cX6_step 196 = .ok (.invokevirtual 193, 3) := by decide +kernel
theorem dX6_step_199 : decode cX6_step 199 = .ok (.istore 9, 2) := by decide +kernel
theorem dX6_step_201 : decode cX6_step 201 = .ok (.iload 9, 2) := by decide +kernel
theorem dX6_step_203 : decode cX6_step 203 = .ok (.ifCond .ne 11, 3) := by decide +kernel
theorem dX6_step_206 : decode cX6_step 206 = .ok (.aload_n 0, 1) := by decide +kernel
theorem dX6_step_207 : decode cX6_step 207 = .ok (.iload 8, 2) := by decide +kernel
theorem dX6_step_209 : decode cX6_step 209 = .ok (.invokevirtual 181, 3) := by decide +kernel
theorem dX6_step_212 : decode cX6_step 212 = .ok (.istore 8, 2) := by decide +kernel
theorem dX6_step_214 : decode cX6_step 214 = .ok (.iinc 10 1, 3) := by decide +kernel
theorem dX6_step_217 : decode cX6_step 217 = .ok (.goto (-53), 3) := by decide +kernel
theorem dX6_step_220 : decode cX6_step 220 = .ok (.aload_n 0, 1) := by decide +kernel
theorem dX6_step_221 : decode cX6_step 221 = .ok (.iload 9, 2) := by decide +kernel
theorem dX6_step_223 : decode cX6_step 223 = .ok (.ifCond .le 19, 3) := by decide +kernel
theorem dX6_step_226 : decode cX6_step 226 = .ok (.aload_n 0, 1) := by decide +kernel
theorem dX6_step_227 : decode cX6_step 227 = .ok (.getfield 22, 3) := by decide +kernel
theorem dX6_step_230 : decode cX6_step 230 = .ok (.iload 9, 2) := by decide +kernel
theorem dX6_step_232 : decode cX6_step 232 = .ok (.iaload, 1) := by decide +kernel
theorem dX6_step_233 : decode cX6_step 233 = .ok (.bipush 100, 2) := by decide +kernel
theorem dX6_step_235 : decode cX6_step 235 = .ok (.if_icmp .gt 7, 3) := by decide +kernel
theorem dX6_step_238 : decode cX6_step 238 = .ok (.iconst 1, 1) := by decide +kernel
theorem dX6_step_239 : decode cX6_step 239 = .ok (.goto 4, 3) := by decide +kernel
theorem dX6_step_242 : decode cX6_step 242 = .ok (.iconst 0, 1) := by decide +kernel
theorem dX6_step_243 : decode cX6_step 243 = .ok (.putfield 86, 3) := by decide +kernel
theorem dX6_step_246 : decode cX6_step 246 = .ok (.aload_n 0, 1) := by decide +kernel
theorem dX6_step_247 : decode cX6_step 247 = .ok (.getfield 86, 3) := by decide +kernel
theorem dX6_step_250 : decode cX6_step 250 = .ok (.ifCond .eq 23, 3) := by decide +kernel
theorem dX6_step_253 : decode cX6_step 253 = .ok (.aload_n 0, 1) := by decide +kernel
theorem dX6_step_254 : decode cX6_step 254 = .ok (.getfield 55, 3) := by decide +kernel
theorem dX6_step_257 : decode cX6_step 257 = .ok (.iload 4, 2) := by decide +kernel
theorem dX6_step_259 : decode cX6_step 259 = .ok (.aload_n 0, 1) := by decide +kernel
theorem dX6_step_260 : decode cX6_step 260 = .ok (.iload 9, 2) := by decide +kernel
theorem dX6_step_262 : decode cX6_step 262 = .ok (.iload 5, 2) := by decide +kernel
theorem dX6_step_264 : decode cX6_step 264 = .ok (.iload 6, 2) := by decide +kernel
theorem dX6_step_266 : decode cX6_step 266 = .ok (.invokevirtual 196, 3) := by decide +kernel
theorem dX6_step_269 : decode cX6_step 269 = .ok (.iastore, 1) := by decide +kernel
theorem dX6_step_270 : decode cX6_step 270 = .ok (.goto 21, 3) := by decide +kernel
theorem dX6_step_273 : decode cX6_step 273 = .ok (.aload_n 0, 1) := by decide +kernel
theorem dX6_step_274 : decode cX6_step 274 = .ok (.iload 5, 2) := by decide +kernel
theorem dX6_step_276 : decode cX6_step 276 = .ok (.iload 6, 2) := by decide +kernel
theorem dX6_step_278 : decode cX6_step 278 = .ok (.invokevirtual 137, 3) := by decide +kernel
theorem dX6_step_281 : decode cX6_step 281 = .ok (.aload_n 0, 1) := by decide +kernel
theorem dX6_step_282 : decode cX6_step 282 = .ok (.dup, 1) := by decide +kernel
theorem dX6_step_283 : decode cX6_step 283 = .ok (.getfield 199, 3) := by decide +kernel
theorem dX6_step_286 : decode cX6_step 286 = .ok (.iconst 1, 1) := by decide +kernel
theorem dX6_step_287 : decode cX6_step 287 = .ok (.iadd, 1) := by decide +kernel
theorem dX6_step_288 : decode cX6_step 288 = .ok (.putfield 199, 3) := by decide +kernel
theorem dX6_step_291 : decode cX6_step 291 = .ok (.return_, 1) := by decide +kernel
