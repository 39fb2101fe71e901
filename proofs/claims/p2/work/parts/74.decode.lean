theorem dX6_ways_0 : decode cX6_ways 0 = .ok (.aload_n 0, 1) := by decide +kernel
theorem dX6_ways_1 : decode cX6_ways 1 = .ok (.iconst 0, 1) := by decide +kernel
theorem dX6_ways_2 : decode cX6_ways 2 = .ok (.putfield 93, 3) := by decide +kernel
theorem dX6_ways_5 : decode cX6_ways 5 = .ok (.aload_n 0, 1) := by decide +kernel
theorem dX6_ways_6 : decode cX6_ways 6 = .ok (.getfield 187, 3) := by decide +kernel
theorem dX6_ways_9 : decode cX6_ways 9 = .ok (.ifCond .eq 17, 3) := by decide +kernel
theorem dX6_ways_12 : decode cX6_ways 12 = .ok (.aload_n 0, 1) := by decide +kernel
theorem dX6_ways_13 : decode cX6_ways 13 = .ok (.getfield 67, 3) := by decide +kernel
theorem dX6_ways_16 : decode cX6_ways 16 = .ok (.aload_n 0, 1) := by decide +kernel
theorem dX6_ways_17 : decode cX6_ways 17 = .ok (.getfield 187, 3) := by decide +kernel
theorem dX6_ways_20 : decode cX6_ways 20 = .ok (.iconst 1, 1) := by decide +kernel
theorem dX6_ways_21 : decode cX6_ways 21 = .ok (.isub, 1) := by decide +kernel
theorem dX6_ways_22 : decode cX6_ways 22 = .ok (.baload, 1) := by decide +kernel
theorem dX6_ways_23 : decode cX6_ways 23 = .ok (.ifCond .ne 9, 3) := by decide +kernel
theorem dX6_ways_26 : decode cX6_ways 26 = .ok (.aload_n 0, 1) := by decide +kernel
theorem dX6_ways_27 : decode cX6_ways 27 = .ok (.iconst 1, 1) := by decide +kernel
theorem dX6_ways_28 : decode cX6_ways 28 = .ok (.invokevirtual 208, 3) := by decide +kernel
theorem dX6_ways_31 : decode cX6_ways 31 = .ok (.ireturn, 1) := by decide +kernel
theorem dX6_ways_32 : decode cX6_ways 32 = .ok (.aload_n 0, 1) := by decide +kernel
theorem dX6_ways_33 : decode cX6_ways 33 = .ok (.getfield 187, 3) := by decide +kernel
theorem dX6_ways_36 : decode cX6_ways 36 = .ok (.iconst 1, 1) := by decide +kernel
theorem dX6_ways_37 : decode cX6_ways 37 = .ok (.isub, 1) := by decide +kernel
theorem dX6_ways_38 : decode cX6_ways 38 = .ok (.istore_n 1, 1) := by decide +kernel
theorem dX6_ways_39 : decode cX6_ways 39 = .ok (.aload_n 0, 1) := by decide +kernel
theorem dX6_ways_40 : decode cX6_ways 40 = .ok (.getfield 103, 3) := by decide +kernel
theorem dX6_ways_43 : decode cX6_ways 43 = .ok (.istore_n 2, 1) := by decide +kernel
theorem dX6_ways_44 : decode cX6_ways 44 = .ok (.aload_n 0, 1) := by decide +kernel
theorem dX6_ways_45 : decode cX6_ways 45 = .ok (.getfield 113, 3) := by decide +kernel
theorem dX6_ways_48 : decode cX6_ways 48 = .ok (.istore_n 3, 1) := by decide +kernel
theorem dX6_ways_49 : decode cX6_ways 49 = .ok (.aload_n 0, 1) := by decide +kernel
theorem dX6_ways_50 : decode cX6_ways 50 = .ok (.getfield 116, 3) := by decide +kernel
theorem dX6_ways_53 : decode cX6_ways 53 = .ok (.istore 4, 2) := by decide +kernel
theorem dX6_ways_55 : decode cX6_ways 55 = .ok (.iconst 0, 1) := by decide +kernel
theorem dX6_ways_56 : decode cX6_ways 56 = .ok (.istore 5, 2) := by decide +kernel
theorem dX6_ways_58 : decode cX6_ways 58 = .ok (.iconst 0, 1) := by decide +kernel
theorem dX6_ways_59 : decode cX6_ways 59 = .ok (.istore 6, 2) := by decide +kernel
theorem dX6_ways_61 : decode cX6_ways 61 = .ok (.iconst 0, 1) := by decide +kernel
theorem dX6_ways_62 : decode cX6_ways 62 = .ok (.istore 7, 2) := by decide +kernel
theorem dX6_ways_64 : decode cX6_ways 64 = .ok (.iload 7, 2) := by decide +kernel
theorem dX6_ways_66 : decode cX6_ways 66 = .ok (.aload_n 0, 1) := by decide +kernel
theorem dX6_ways_67 : decode cX6_ways 67 = .ok (.getfield 58, 3) := by decide +kernel
theorem dX6_ways_70 : decode cX6_ways 70 = .ok (.iload_n 1, 1) := by decide +kernel
theorem dX6_ways_71 : decode cX6_ways 71 = .ok (.iaload, 1) := by decide +kernel
theorem dX6_ways_72 : decode cX6_ways 72 = .ok (.if_icmp .ge 42, 3) := by decide +kernel
theorem dX6_ways_75 : decode cX6_ways 75 = .ok (.iload 6, 2) := by decide +kernel
theorem dX6_ways_77 : decode cX6_ways 77 = .ok (.aload_n 0, 1) := by decide +kernel
theorem dX6_ways_78 : decode cX6_ways 78 = .ok (.getfield 7, 3) := by decide +kernel
theorem dX6_ways_81 : decode cX6_ways 81 = .ok (.aload_n 0, 1) := by decide +kernel
theorem dX6_ways_82 : decode cX6_ways 82 = .ok (.getfield 83, 3) := by decide +kernel
theorem dX6_ways_85 : decode cX6_ways 85 = .ok (.aload_n 0, 1) := by decide +kernel
theorem dX6_ways_86 : decode cX6_ways 86 = .ok (.getfield 64, 3) := by decide +kernel
theorem dX6_ways_89 : decode cX6_ways 89 = .ok (.iload_n 1, 1) := by decide +kernel
theorem dX6_ways_90 : decode cX6_ways 90 = .ok (.iaload, 1) := by decide +kernel
theorem dX6_ways_91 : decode cX6_ways 91 = .ok (.iload 7, 2) := by decide +kernel
theorem dX6_ways_93 : decode cX6_ways 93 = .ok (.iadd, 1) := by decide +kernel
theorem dX6_ways_94 : decode cX6_ways 94 = .ok (.iaload, 1) := by decide +kernel
theorem dX6_ways_95 : decode cX6_ways 95 = .ok (.iaload, 1) := by decide +kernel
theorem dX6_ways_96 : decode cX6_ways 96 = .ok (.iconst 3, 1) := by decide +kernel
theorem dX6_ways_97 : decode cX6_ways 97 = .ok (.if_icmp .ne 7, 3) := by decide +kernel
theorem dX6_ways_100 : decode cX6_ways 100 = .ok (.iconst 1, 1) := by decide +kernel
theorem dX6_ways_101 : decode cX6_ways 101 = .ok (.goto 4, 3) := by decide +kernel
theorem dX6_ways_104 : decode cX6_ways 104 = .ok (.iconst 0, 1) := by decide +kernel
theorem dX6_ways_105 : decode cX6_ways 105 = .ok (.ior, 1) := by decide +kernel
theorem dX6_ways_106 : decode cX6_ways 106 = .ok (.istore 6, 2) := by decide +kernel
theorem dX6_ways_108 : decode cX6_ways 108 = .ok (.iinc 7 1, 3) := by decide +kernel
theorem dX6_ways_111 : decode cX6_ways 111 = .ok (.goto (-47), 3) := by decide +kernel
theorem dX6_ways_114 : decode cX6_ways 114 = .ok (.iconst 0, 1) := by decide +kernel
theorem dX6_ways_115 : decode cX6_ways 115 = .ok (.istore 7, 2) := by decide +kernel
theorem dX6_ways_117 : decode cX6_ways 117 = .ok (.iload 7, 2) := by decide +kernel
theorem dX6_ways_119 : decode cX6_ways 119 = .ok (.aload_n 0, 1) := by decide +kernel
theorem dX6_ways_120 : decode cX6_ways 120 = .ok (.getfield 58, 3) := by decide +kernel
theorem dX6_ways_123 : decode cX6_ways 123 = .ok (.iload_n 1, 1) := by decide +kernel
theorem dX6_ways_124 : decode cX6_ways 124 = .ok (.iaload, 1) := by decide +kernel
theorem dX6_ways_125 : decode cX6_ways 125 = .ok (.if_icmp .ge 89, 3) := by decide +kernel
theorem dX6_ways_128 : decode cX6_ways 128 = .ok (.iload 6, 2) := by decide +kernel
theorem dX6_ways_130 : decode cX6_ways 130 = .ok (.ifCond .ne 84, 3) := by decide +kernel
theorem dX6_ways_133 : decode cX6_ways 133 = .ok (.iload 5, 2) := by decide +kernel
theorem dX6_ways_135 : decode cX6_ways 135 = .ok (.sipush 200, 3) := by decide +kernel
theorem dX6_ways_138 : decode cX6_ways 138 = .ok (.if_icmp .ge 76, 3) := by decide +kernel
theorem dX6_ways_141 : decode cX6_ways 141 = .ok (.aload_n 0, 1) := by decide +kernel
theorem dX6_ways_142 : decode cX6_ways 142 = .ok (.aload_n 0, 1) := by decide +kernel
theorem dX6_ways_143 : decode cX6_ways 143 = .ok (.getfield 83, 3) := by decide +kernel
theorem dX6_ways_146 : decode cX6_ways 146 = .ok (.aload_n 0, 1) := by decide +kernel
theorem dX6_ways_147 : decode cX6_ways 147 = .ok (.getfield 64, 3) := by decide +kernel
theorem dX6_ways_150 : decode cX6_ways 150 = .ok (.iload_n 1, 1) := by decide +kernel
theorem dX6_ways_151 : decode cX6_ways 151 = .ok (.iaload, 1) := by decide +kernel
theorem dX6_ways_152 : decode cX6_ways 152 = .ok (.iload 7, 2) := by decide +kernel
theorem dX6_ways_154 : decode cX6_ways 154 = .ok (.iadd, 1) := by decide +kernel
theorem dX6_ways_155 : decode cX6_ways 155 = .ok (.iaload, 1) := by decide +kernel
theorem dX6_ways_156 : decode cX6_ways 156 = .ok (.invokevirtual 154, 3) := by decide +kernel
theorem dX6_ways_159 : decode cX6_ways 159 = .ok (.istore 8, 2) := by decide +kernel
theorem dX6_ways_161 : decode cX6_ways 161 = .ok (.aload_n 0, 1) := by decide +kernel
theorem dX6_ways_162 : decode cX6_ways 162 = .ok (.iload 8, 2) := by decide +kernel
theorem dX6_ways_164 : decode cX6_ways 164 = .ok (.invokevirtual 130, 3) := by decide +kernel
theorem dX6_ways_167 : decode cX6_ways 167 = .ok (.aload_n 0, 1) := by decide +kernel
theorem dX6_ways_168 : decode cX6_ways 168 = .ok (.getfield 7, 3) := by decide +kernel
theorem dX6_ways_171 : decode cX6_ways 171 = .ok (.iload 8, 2) := by decide +kernel
theorem dX6_ways_173 : decode cX6_ways 173 = .ok (.iaload, 1) := by decide +kernel
theorem dX6_ways_174 : decode cX6_ways 174 = .ok (.iconst 3, 1) := by decide +kernel
theorem dX6_ways_175 : decode cX6_ways 175 = .ok (.if_icmp .eq 33, 3) := by decide +kernel
theorem dX6_ways_178 : decode cX6_ways 178 = .ok (.iload 5, 2) := by decide +kernel
theorem dX6_ways_180 : decode cX6_ways 180 = .ok (.aload_n 0, 1) := by decide +kernel
theorem dX6_ways_181 : decode cX6_ways 181 = .ok (.getfield 22, 3) := by decide +kernel
theorem dX6_ways_184 : decode cX6_ways 184 = .ok (.iload 8, 2) := by decide +kernel
theorem dX6_ways_186 : decode cX6_ways 186 = .ok (.iaload, 1) := by decide +kernel
theorem dX6_ways_187 : decode cX6_ways 187 = .ok (.aload_n 0, 1) := by decide +kernel
theorem dX6_ways_188 : decode cX6_ways 188 = .ok (.getfield 7, 3) := by decide +kernel
theorem dX6_ways_191 : decode cX6_ways 191 = .ok (.iload 8, 2) := by decide +kernel
theorem dX6_ways_193 : decode cX6_ways 193 = .ok (.iaload, 1) := by decide +kernel
theorem dX6_ways_194 : decode cX6_ways 194 = .ok (.bipush 7, 2) := by decide +kernel
theorem dX6_ways_196 : decode cX6_ways 196 = .ok (.if_icmp .ne 7, 3) := by decide +kernel
theorem dX6_ways_199 : decode cX6_ways 199 = .ok (.iconst 1, 1) := by decide +kernel
theorem dX6_ways_200 : decode cX6_ways 200 = .ok (.goto 4, 3) := by decide +kernel
theorem dX6_ways_203 : decode cX6_ways 203 = .ok (.iconst 0, 1) := by decide +kernel
theorem dX6_ways_204 : decode cX6_ways 204 = .ok (.isub, 1) := by decide +kernel
theorem dX6_ways_205 : decode cX6_ways 205 = .ok (.iadd, 1) := by decide +kernel
theorem dX6_ways_206 : decode cX6_ways 206 = .ok (.istore 5, 2) := by decide +kernel
theorem dX6_ways_208 : decode cX6_ways 208 = .ok (.iinc 7 1, 3) := by decide +kernel
theorem dX6_ways_211 : decode cX6_ways 211 = .ok (.goto (-94), 3) := by decide +kernel
theorem dX6_ways_214 : decode cX6_ways 214 = .ok (.iload 6, 2) := by decide +kernel
theorem dX6_ways_216 : decode cX6_ways 216 = .ok (.ifCond .eq 10, 3) := by decide +kernel
theorem dX6_ways_219 : decode cX6_ways 219 = .ok (.aload_n 0, 1) := by decide +kernel
theorem dX6_ways_220 : decode cX6_ways 220 = .ok (.invokevirtual 147, 3) := by decide +kernel
theorem dX6_ways_223 : decode cX6_ways 223 = .ok (.goto 24, 3) := by decide +kernel
theorem dX6_ways_226 : decode cX6_ways 226 = .ok (.iload 5, 2) := by decide +kernel
theorem dX6_ways_228 : decode cX6_ways 228 = .ok (.sipush 200, 3) := by decide +kernel
theorem dX6_ways_231 : decode cX6_ways 231 = .ok (.if_icmp .ge 15, 3) := by decide +kernel
theorem dX6_ways_234 : decode cX6_ways 234 = .ok (.aload_n 0, 1) := by decide +kernel
theorem dX6_ways_235 : decode cX6_ways 235 = .ok (.aload_n 0, 1) := by decide +kernel
theorem dX6_ways_236 : decode cX6_ways 236 = .ok (.iload_n 2, 1) := by decide +kernel
theorem dX6_ways_237 : decode cX6_ways 237 = .ok (.invokevirtual 150, 3) := by decide +kernel
theorem dX6_ways_240 : decode cX6_ways 240 = .ok (.invokevirtual 154, 3) := by decide +kernel
theorem dX6_ways_243 : decode cX6_ways 243 = .ok (.goto 4, 3) := by decide +kernel
theorem dX6_ways_246 : decode cX6_ways 246 = .ok (.iconst 0, 1) := by decide +kernel
theorem dX6_ways_247 : decode cX6_ways 247 = .ok (.istore 7, 2) := by decide +kernel
theorem dX6_ways_249 : decode cX6_ways 249 = .ok (.aload_n 0, 1) := by decide +kernel
theorem dX6_ways_250 : decode cX6_ways 250 = .ok (.iload_n 2, 1) := by decide +kernel
theorem dX6_ways_251 : decode cX6_ways 251 = .ok (.putfield 103, 3) := by decide +kernel
theorem dX6_ways_254 : decode cX6_ways 254 = .ok (.iload 7, 2) := by decide +kernel
theorem dX6_ways_256 : decode cX6_ways 256 = .ok (.ifCond .ne 11, 3) := by decide +kernel
theorem dX6_ways_259 : decode cX6_ways 259 = .ok (.aload_n 0, 1) := by decide +kernel
theorem dX6_ways_260 : decode cX6_ways 260 = .ok (.iconst 1, 1) := by decide +kernel
theorem dX6_ways_261 : decode cX6_ways 261 = .ok (.invokevirtual 208, 3) := by decide +kernel
theorem dX6_ways_264 : decode cX6_ways 264 = .ok (.goto 10, 3) := by decide +kernel
theorem dX6_ways_267 : decode cX6_ways 267 = .ok (.aload_n 0, 1) := by decide +kernel
theorem dX6_ways_268 : decode cX6_ways 268 = .ok (.iload 7, 2) := by decide +kernel
theorem dX6_ways_270 : decode cX6_ways 270 = .ok (.iconst 1, 1) := by decide +kernel
theorem dX6_ways_271 : decode cX6_ways 271 = .ok (.invokevirtual 227, 3) := by decide +kernel
theorem dX6_ways_274 : decode cX6_ways 274 = .ok (.istore 8, 2) := by decide +kernel
theorem dX6_ways_276 : decode cX6_ways 276 = .ok (.aload_n 0, 1) := by decide +kernel
theorem dX6_ways_277 : decode cX6_ways 277 = .ok (.getfield 93, 3) := by decide +kernel
theorem dX6_ways_280 : decode cX6_ways 280 = .ok (.ifCond .eq 13, 3) := by decide +kernel
theorem dX6_ways_283 : decode cX6_ways 283 = .ok (.aload_n 0, 1) := by decide +kernel
theorem dX6_ways_284 : decode cX6_ways 284 = .ok (.iload_n 3, 1) := by decide +kernel
theorem dX6_ways_285 : decode cX6_ways 285 = .ok (.iload 4, 2) := by decide +kernel
theorem dX6_ways_287 : decode cX6_ways 287 = .ok (.invokevirtual 137, 3) := by decide +kernel
theorem dX6_ways_290 : decode cX6_ways 290 = .ok (.goto 19, 3) := by decide +kernel
theorem dX6_ways_293 : decode cX6_ways 293 = .ok (.aload_n 0, 1) := by decide +kernel
theorem dX6_ways_294 : decode cX6_ways 294 = .ok (.getfield 90, 3) := by decide +kernel
theorem dX6_ways_297 : decode cX6_ways 297 = .ok (.iload 8, 2) := by decide +kernel
theorem dX6_ways_299 : decode cX6_ways 299 = .ok (.aload_n 0, 1) := by decide +kernel
theorem dX6_ways_300 : decode cX6_ways 300 = .ok (.iload 7, 2) := by decide +kernel
theorem dX6_ways_302 : decode cX6_ways 302 = .ok (.iload_n 3, 1) := by decide +kernel
theorem dX6_ways_303 : decode cX6_ways 303 = .ok (.iload 4, 2) := by decide +kernel
theorem dX6_ways_305 : decode cX6_ways 305 = .ok (.invokevirtual 196, 3) := by decide +kernel
theorem dX6_ways_308 : decode cX6_ways 308 = .ok (.iastore, 1) := by decide +kernel
theorem dX6_ways_309 : decode cX6_ways 309 = .ok (.iload 8, 2) := by decide +kernel
theorem dX6_ways_311 : decode cX6_ways 311 = .ok (.ireturn, 1) := by decide +kernel
