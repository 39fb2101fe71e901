theorem dX6_node_0 : decode cX6_node 0 = .ok (.aload_n 0, 1) := by decide +kernel
theorem dX6_node_1 : decode cX6_node 1 = .ok (.getfield 103, 3) := by decide +kernel
theorem dX6_node_4 : decode cX6_node 4 = .ok (.iload_n 3, 1) := by decide +kernel
theorem dX6_node_5 : decode cX6_node 5 = .ok (.isub, 1) := by decide +kernel
theorem dX6_node_6 : decode cX6_node 6 = .ok (.istore 4, 2) := by decide +kernel
theorem dX6_node_8 : decode cX6_node 8 = .ok (.bipush 31, 2) := by decide +kernel
theorem dX6_node_10 : decode cX6_node 10 = .ok (.iload_n 1, 1) := by decide +kernel
theorem dX6_node_11 : decode cX6_node 11 = .ok (.imul, 1) := by decide +kernel
theorem dX6_node_12 : decode cX6_node 12 = .ok (.iload_n 2, 1) := by decide +kernel
theorem dX6_node_13 : decode cX6_node 13 = .ok (.iadd, 1) := by decide +kernel
theorem dX6_node_14 : decode cX6_node 14 = .ok (.istore 5, 2) := by decide +kernel
theorem dX6_node_16 : decode cX6_node 16 = .ok (.iload_n 3, 1) := by decide +kernel
theorem dX6_node_17 : decode cX6_node 17 = .ok (.istore 6, 2) := by decide +kernel
theorem dX6_node_19 : decode cX6_node 19 = .ok (.iload 6, 2) := by decide +kernel
theorem dX6_node_21 : decode cX6_node 21 = .ok (.aload_n 0, 1) := by decide +kernel
theorem dX6_node_22 : decode cX6_node 22 = .ok (.getfield 103, 3) := by decide +kernel
theorem dX6_node_25 : decode cX6_node 25 = .ok (.if_icmp .ge 24, 3) := by decide +kernel
theorem dX6_node_28 : decode cX6_node 28 = .ok (.bipush 31, 2) := by decide +kernel
theorem dX6_node_30 : decode cX6_node 30 = .ok (.iload 5, 2) := by decide +kernel
theorem dX6_node_32 : decode cX6_node 32 = .ok (.imul, 1) := by decide +kernel
theorem dX6_node_33 : decode cX6_node 33 = .ok (.aload_n 0, 1) := by decide +kernel
theorem dX6_node_34 : decode cX6_node 34 = .ok (.getfield 40, 3) := by decide +kernel
theorem dX6_node_37 : decode cX6_node 37 = .ok (.iload 6, 2) := by decide +kernel
theorem dX6_node_39 : decode cX6_node 39 = .ok (.iaload, 1) := by decide +kernel
theorem dX6_node_40 : decode cX6_node 40 = .ok (.iadd, 1) := by decide +kernel
theorem dX6_node_41 : decode cX6_node 41 = .ok (.istore 5, 2) := by decide +kernel
theorem dX6_node_43 : decode cX6_node 43 = .ok (.iinc 6 1, 3) := by decide +kernel
theorem dX6_node_46 : decode cX6_node 46 = .ok (.goto (-27), 3) := by decide +kernel
theorem dX6_node_49 : decode cX6_node 49 = .ok (.iload 5, 2) := by decide +kernel
theorem dX6_node_51 : decode cX6_node 51 = .ok (.iload 5, 2) := by decide +kernel
theorem dX6_node_53 : decode cX6_node 53 = .ok (.bipush 11, 2) := by decide +kernel
theorem dX6_node_55 : decode cX6_node 55 = .ok (.iushr, 1) := by decide +kernel
theorem dX6_node_56 : decode cX6_node 56 = .ok (.ixor, 1) := by decide +kernel
theorem dX6_node_57 : decode cX6_node 57 = .ok (.aload_n 0, 1) := by decide +kernel
theorem dX6_node_58 : decode cX6_node 58 = .ok (.getfield 34, 3) := by decide +kernel
theorem dX6_node_61 : decode cX6_node 61 = .ok (.arraylength, 1) := by decide +kernel
theorem dX6_node_62 : decode cX6_node 62 = .ok (.iconst 1, 1) := by decide +kernel
theorem dX6_node_63 : decode cX6_node 63 = .ok (.isub, 1) := by decide +kernel
theorem dX6_node_64 : decode cX6_node 64 = .ok (.iand, 1) := by decide +kernel
theorem dX6_node_65 : decode cX6_node 65 = .ok (.istore 5, 2) := by decide +kernel
theorem dX6_node_67 : decode cX6_node 67 = .ok (.aload_n 0, 1) := by decide +kernel
theorem dX6_node_68 : decode cX6_node 68 = .ok (.getfield 34, 3) := by decide +kernel
theorem dX6_node_71 : decode cX6_node 71 = .ok (.iload 5, 2) := by decide +kernel
theorem dX6_node_73 : decode cX6_node 73 = .ok (.iaload, 1) := by decide +kernel
theorem dX6_node_74 : decode cX6_node 74 = .ok (.istore 6, 2) := by decide +kernel
theorem dX6_node_76 : decode cX6_node 76 = .ok (.iload 6, 2) := by decide +kernel
theorem dX6_node_78 : decode cX6_node 78 = .ok (.ifCond .le 106, 3) := by decide +kernel
theorem dX6_node_81 : decode cX6_node 81 = .ok (.aload_n 0, 1) := by decide +kernel
theorem dX6_node_82 : decode cX6_node 82 = .ok (.getfield 7, 3) := by decide +kernel
theorem dX6_node_85 : decode cX6_node 85 = .ok (.iload 6, 2) := by decide +kernel
theorem dX6_node_87 : decode cX6_node 87 = .ok (.iaload, 1) := by decide +kernel
theorem dX6_node_88 : decode cX6_node 88 = .ok (.iload_n 1, 1) := by decide +kernel
theorem dX6_node_89 : decode cX6_node 89 = .ok (.if_icmp .ne 83, 3) := by decide +kernel
theorem dX6_node_92 : decode cX6_node 92 = .ok (.aload_n 0, 1) := by decide +kernel
theorem dX6_node_93 : decode cX6_node 93 = .ok (.getfield 13, 3) := by decide +kernel
theorem dX6_node_96 : decode cX6_node 96 = .ok (.iload 6, 2) := by decide +kernel
theorem dX6_node_98 : decode cX6_node 98 = .ok (.iaload, 1) := by decide +kernel
theorem dX6_node_99 : decode cX6_node 99 = .ok (.iload_n 2, 1) := by decide +kernel
theorem dX6_node_100 : decode cX6_node 100 = .ok (.if_icmp .ne 72, 3) := by decide +kernel
theorem dX6_node_103 : decode cX6_node 103 = .ok (.aload_n 0, 1) := by decide +kernel
theorem dX6_node_104 : decode cX6_node 104 = .ok (.getfield 19, 3) := by decide +kernel
theorem dX6_node_107 : decode cX6_node 107 = .ok (.iload 6, 2) := by decide +kernel
theorem dX6_node_109 : decode cX6_node 109 = .ok (.iaload, 1) := by decide +kernel
theorem dX6_node_110 : decode cX6_node 110 = .ok (.iload 4, 2) := by decide +kernel
theorem dX6_node_112 : decode cX6_node 112 = .ok (.if_icmp .eq 6, 3) := by decide +kernel
theorem dX6_node_115 : decode cX6_node 115 = .ok (.goto 57, 3) := by decide +kernel
theorem dX6_node_118 : decode cX6_node 118 = .ok (.iconst 0, 1) := by decide +kernel
theorem dX6_node_119 : decode cX6_node 119 = .ok (.istore 7, 2) := by decide +kernel
theorem dX6_node_121 : decode cX6_node 121 = .ok (.iload 7, 2) := by decide +kernel
theorem dX6_node_123 : decode cX6_node 123 = .ok (.iload 4, 2) := by decide +kernel
theorem dX6_node_125 : decode cX6_node 125 = .ok (.if_icmp .ge 29, 3) := by decide +kernel
theorem dX6_node_128 : decode cX6_node 128 = .ok (.aload_n 0, 1) := by decide +kernel
theorem dX6_node_129 : decode cX6_node 129 = .ok (.iload 6, 2) := by decide +kernel
theorem dX6_node_131 : decode cX6_node 131 = .ok (.iload 7, 2) := by decide +kernel
theorem dX6_node_133 : decode cX6_node 133 = .ok (.invokevirtual 110, 3) := by decide +kernel
theorem dX6_node_136 : decode cX6_node 136 = .ok (.aload_n 0, 1) := by decide +kernel
theorem dX6_node_137 : decode cX6_node 137 = .ok (.getfield 40, 3) := by decide +kernel
theorem dX6_node_140 : decode cX6_node 140 = .ok (.iload_n 3, 1) := by decide +kernel
theorem dX6_node_141 : decode cX6_node 141 = .ok (.iload 7, 2) := by decide +kernel
theorem dX6_node_143 : decode cX6_node 143 = .ok (.iadd, 1) := by decide +kernel
theorem dX6_node_144 : decode cX6_node 144 = .ok (.iaload, 1) := by decide +kernel
theorem dX6_node_145 : decode cX6_node 145 = .ok (.if_icmp .ne 9, 3) := by decide +kernel
theorem dX6_node_148 : decode cX6_node 148 = .ok (.iinc 7 1, 3) := by decide +kernel
theorem dX6_node_151 : decode cX6_node 151 = .ok (.goto (-30), 3) := by decide +kernel
theorem dX6_node_154 : decode cX6_node 154 = .ok (.iload 7, 2) := by decide +kernel
theorem dX6_node_156 : decode cX6_node 156 = .ok (.iload 4, 2) := by decide +kernel
theorem dX6_node_158 : decode cX6_node 158 = .ok (.if_icmp .ge 6, 3) := by decide +kernel
theorem dX6_node_161 : decode cX6_node 161 = .ok (.goto 11, 3) := by decide +kernel
theorem dX6_node_164 : decode cX6_node 164 = .ok (.aload_n 0, 1) := by decide +kernel
theorem dX6_node_165 : decode cX6_node 165 = .ok (.iload_n 3, 1) := by decide +kernel
theorem dX6_node_166 : decode cX6_node 166 = .ok (.putfield 103, 3) := by decide +kernel
theorem dX6_node_169 : decode cX6_node 169 = .ok (.iload 6, 2) := by decide +kernel
theorem dX6_node_171 : decode cX6_node 171 = .ok (.ireturn, 1) := by decide +kernel
theorem dX6_node_172 : decode cX6_node 172 = .ok (.aload_n 0, 1) := by decide +kernel
theorem dX6_node_173 : decode cX6_node 173 = .ok (.getfield 28, 3) := by decide +kernel
theorem dX6_node_176 : decode cX6_node 176 = .ok (.iload 6, 2) := by decide +kernel
theorem dX6_node_178 : decode cX6_node 178 = .ok (.iaload, 1) := by decide +kernel
theorem dX6_node_179 : decode cX6_node 179 = .ok (.istore 6, 2) := by decide +kernel
theorem dX6_node_181 : decode cX6_node 181 = .ok (.goto (-105), 3) := by decide +kernel
theorem dX6_node_184 : decode cX6_node 184 = .ok (.aload_n 0, 1) := by decide +kernel
theorem dX6_node_185 : decode cX6_node 185 = .ok (.dup, 1) := by decide +kernel
theorem dX6_node_186 : decode cX6_node 186 = .ok (.getfield 113, 3) := by decide +kernel
theorem dX6_node_189 : decode cX6_node 189 = .ok (.iconst 1, 1) := by decide +kernel
theorem dX6_node_190 : decode cX6_node 190 = .ok (.iadd, 1) := by decide +kernel
theorem dX6_node_191 : decode cX6_node 191 = .ok (.putfield 113, 3) := by decide +kernel
theorem dX6_node_194 : decode cX6_node 194 = .ok (.aload_n 0, 1) := by decide +kernel
theorem dX6_node_195 : decode cX6_node 195 = .ok (.aload_n 0, 1) := by decide +kernel
theorem dX6_node_196 : decode cX6_node 196 = .ok (.getfield 7, 3) := by decide +kernel
theorem dX6_node_199 : decode cX6_node 199 = .ok (.aload_n 0, 1) := by decide +kernel
theorem dX6_node_200 : decode cX6_node 200 = .ok (.getfield 113, 3) := by decide +kernel
theorem dX6_node_203 : decode cX6_node 203 = .ok (.invokestatic 106, 3) := by decide +kernel
theorem dX6_node_206 : decode cX6_node 206 = .ok (.putfield 7, 3) := by decide +kernel
theorem dX6_node_209 : decode cX6_node 209 = .ok (.aload_n 0, 1) := by decide +kernel
theorem dX6_node_210 : decode cX6_node 210 = .ok (.aload_n 0, 1) := by decide +kernel
theorem dX6_node_211 : decode cX6_node 211 = .ok (.getfield 13, 3) := by decide +kernel
theorem dX6_node_214 : decode cX6_node 214 = .ok (.aload_n 0, 1) := by decide +kernel
theorem dX6_node_215 : decode cX6_node 215 = .ok (.getfield 113, 3) := by decide +kernel
theorem dX6_node_218 : decode cX6_node 218 = .ok (.invokestatic 106, 3) := by decide +kernel
theorem dX6_node_221 : decode cX6_node 221 = .ok (.putfield 13, 3) := by decide +kernel
theorem dX6_node_224 : decode cX6_node 224 = .ok (.aload_n 0, 1) := by decide +kernel
theorem dX6_node_225 : decode cX6_node 225 = .ok (.aload_n 0, 1) := by decide +kernel
theorem dX6_node_226 : decode cX6_node 226 = .ok (.getfield 16, 3) := by decide +kernel
theorem dX6_node_229 : decode cX6_node 229 = .ok (.aload_n 0, 1) := by decide +kernel
theorem dX6_node_230 : decode cX6_node 230 = .ok (.getfield 113, 3) := by decide +kernel
theorem dX6_node_233 : decode cX6_node 233 = .ok (.invokestatic 106, 3) := by decide +kernel
theorem dX6_node_236 : decode cX6_node 236 = .ok (.putfield 16, 3) := by decide +kernel
theorem dX6_node_239 : decode cX6_node 239 = .ok (.aload_n 0, 1) := by decide +kernel
theorem dX6_node_240 : decode cX6_node 240 = .ok (.aload_n 0, 1) := by decide +kernel
theorem dX6_node_241 : decode cX6_node 241 = .ok (.getfield 19, 3) := by decide +kernel
theorem dX6_node_244 : decode cX6_node 244 = .ok (.aload_n 0, 1) := by decide +kernel
theorem dX6_node_245 : decode cX6_node 245 = .ok (.getfield 113, 3) := by decide +kernel
theorem dX6_node_248 : decode cX6_node 248 = .ok (.invokestatic 106, 3) := by decide +kernel
theorem dX6_node_251 : decode cX6_node 251 = .ok (.putfield 19, 3) := by decide +kernel
theorem dX6_node_254 : decode cX6_node 254 = .ok (.aload_n 0, 1) := by decide +kernel
theorem dX6_node_255 : decode cX6_node 255 = .ok (.aload_n 0, 1) := by decide +kernel
theorem dX6_node_256 : decode cX6_node 256 = .ok (.getfield 22, 3) := by decide +kernel
theorem dX6_node_259 : decode cX6_node 259 = .ok (.aload_n 0, 1) := by decide +kernel
theorem dX6_node_260 : decode cX6_node 260 = .ok (.getfield 113, 3) := by decide +kernel
theorem dX6_node_263 : decode cX6_node 263 = .ok (.invokestatic 106, 3) := by decide +kernel
theorem dX6_node_266 : decode cX6_node 266 = .ok (.putfield 22, 3) := by decide +kernel
theorem dX6_node_269 : decode cX6_node 269 = .ok (.aload_n 0, 1) := by decide +kernel
theorem dX6_node_270 : decode cX6_node 270 = .ok (.aload_n 0, 1) := by decide +kernel
theorem dX6_node_271 : decode cX6_node 271 = .ok (.getfield 25, 3) := by decide +kernel
theorem dX6_node_274 : decode cX6_node 274 = .ok (.aload_n 0, 1) := by decide +kernel
theorem dX6_node_275 : decode cX6_node 275 = .ok (.getfield 113, 3) := by decide +kernel
theorem dX6_node_278 : decode cX6_node 278 = .ok (.invokestatic 106, 3) := by decide +kernel
theorem dX6_node_281 : decode cX6_node 281 = .ok (.putfield 25, 3) := by decide +kernel
theorem dX6_node_284 : decode cX6_node 284 = .ok (.aload_n 0, 1) := by decide +kernel
theorem dX6_node_285 : decode cX6_node 285 = .ok (.aload_n 0, 1) := by decide +kernel
theorem dX6_node_286 : decode cX6_node 286 = .ok (.getfield 28, 3) := by decide +kernel
theorem dX6_node_289 : decode cX6_node 289 = .ok (.aload_n 0, 1) := by decide +kernel
theorem dX6_node_290 : decode cX6_node 290 = .ok (.getfield 113, 3) := by decide +kernel
theorem dX6_node_293 : decode cX6_node 293 = .ok (.invokestatic 106, 3) := by decide +kernel
theorem dX6_node_296 : decode cX6_node 296 = .ok (.putfield 28, 3) := by decide +kernel
theorem dX6_node_299 : decode cX6_node 299 = .ok (.aload_n 0, 1) := by decide +kernel
theorem dX6_node_300 : decode cX6_node 300 = .ok (.aload_n 0, 1) := by decide +kernel
theorem dX6_node_301 : decode cX6_node 301 = .ok (.getfield 31, 3) := by decide +kernel
theorem dX6_node_304 : decode cX6_node 304 = .ok (.aload_n 0, 1) := by decide +kernel
theorem dX6_node_305 : decode cX6_node 305 = .ok (.getfield 113, 3) := by decide +kernel
theorem dX6_node_308 : decode cX6_node 308 = .ok (.invokestatic 106, 3) := by decide +kernel
theorem dX6_node_311 : decode cX6_node 311 = .ok (.putfield 31, 3) := by decide +kernel
theorem dX6_node_314 : decode cX6_node 314 = .ok (.aload_n 0, 1) := by decide +kernel
theorem dX6_node_315 : decode cX6_node 315 = .ok (.aload_n 0, 1) := by decide +kernel
theorem dX6_node_316 : decode cX6_node 316 = .ok (.getfield 37, 3) := by decide +kernel
theorem dX6_node_319 : decode cX6_node 319 = .ok (.aload_n 0, 1) := by decide +kernel
theorem dX6_node_320 : decode cX6_node 320 = .ok (.getfield 116, 3) := by decide +kernel
theorem dX6_node_323 : decode cX6_node 323 = .ok (.iload 4, 2) := by decide +kernel
theorem dX6_node_325 : decode cX6_node 325 = .ok (.iadd, 1) := by decide +kernel
theorem dX6_node_326 : decode cX6_node 326 = .ok (.invokestatic 106, 3) := by decide +kernel
theorem dX6_node_329 : decode cX6_node 329 = .ok (.putfield 37, 3) := by decide +kernel
theorem dX6_node_332 : decode cX6_node 332 = .ok (.iconst 1, 1) := by decide +kernel
theorem dX6_node_333 : decode cX6_node 333 = .ok (.istore 6, 2) := by decide +kernel
theorem dX6_node_335 : decode cX6_node 335 = .ok (.iload_n 1, 1) := by decide +kernel
theorem dX6_node_336 : decode cX6_node 336 = .ok (.iconst 2, 1) := by decide +kernel
theorem dX6_node_337 : decode cX6_node 337 = .ok (.if_icmp .ne 9, 3) := by decide +kernel
theorem dX6_node_340 : decode cX6_node 340 = .ok (.iload_n 2, 1) := by decide +kernel
theorem dX6_node_341 : decode cX6_node 341 = .ok (.iconst 1, 1) := by decide +kernel
theorem dX6_node_342 : decode cX6_node 342 = .ok (.iadd, 1) := by decide +kernel
theorem dX6_node_343 : decode cX6_node 343 = .ok (.goto 4, 3) := by decide +kernel
theorem dX6_node_346 : decode cX6_node 346 = .ok (.iconst 0, 1) := by decide +kernel
theorem dX6_node_347 : decode cX6_node 347 = .ok (.istore 7, 2) := by decide +kernel
theorem dX6_node_349 : decode cX6_node 349 = .ok (.iconst 0, 1) := by decide +kernel
theorem dX6_node_350 : decode cX6_node 350 = .ok (.istore 8, 2) := by decide +kernel
theorem dX6_node_352 : decode cX6_node 352 = .ok (.iload 8, 2) := by decide +kernel
theorem dX6_node_354 : decode cX6_node 354 = .ok (.iload 4, 2) := by decide +kernel
theorem dX6_node_356 : decode cX6_node 356 = .ok (.if_icmp .ge 83, 3) := by decide +kernel
theorem dX6_node_359 : decode cX6_node 359 = .ok (.aload_n 0, 1) := by decide +kernel
theorem dX6_node_360 : decode cX6_node 360 = .ok (.getfield 40, 3) := by decide +kernel
theorem dX6_node_363 : decode cX6_node 363 = .ok (.iload_n 3, 1) := by decide +kernel
theorem dX6_node_364 : decode cX6_node 364 = .ok (.iload 8, 2) := by decide +kernel
theorem dX6_node_366 : decode cX6_node 366 = .ok (.iadd, 1) := by decide +kernel
theorem dX6_node_367 : decode cX6_node 367 = .ok (.iaload, 1) := by decide +kernel
theorem dX6_node_368 : decode cX6_node 368 = .ok (.istore 9, 2) := by decide +kernel
theorem dX6_node_370 : decode cX6_node 370 = .ok (.aload_n 0, 1) := by decide +kernel
theorem dX6_node_371 : decode cX6_node 371 = .ok (.getfield 25, 3) := by decide +kernel
theorem dX6_node_374 : decode cX6_node 374 = .ok (.iload 9, 2) := by decide +kernel
theorem dX6_node_376 : decode cX6_node 376 = .ok (.iaload, 1) := by decide +kernel
theorem dX6_node_377 : decode cX6_node 377 = .ok (.iload_n 1, 1) := by decide +kernel
theorem dX6_node_378 : decode cX6_node 378 = .ok (.bipush 8, 2) := by decide +kernel
theorem dX6_node_380 : decode cX6_node 380 = .ok (.if_icmp .ne 7, 3) := by decide +kernel
theorem dX6_node_383 : decode cX6_node 383 = .ok (.iconst 1, 1) := by decide +kernel
theorem dX6_node_384 : decode cX6_node 384 = .ok (.goto 4, 3) := by decide +kernel
theorem dX6_node_387 : decode cX6_node 387 = .ok (.iconst 0, 1) := by decide +kernel
theorem dX6_node_388 : decode cX6_node 388 = .ok (.isub, 1) := by decide +kernel
theorem dX6_node_389 : decode cX6_node 389 = .ok (.istore 10, 2) := by decide +kernel
theorem dX6_node_391 : decode cX6_node 391 = .ok (.aload_n 0, 1) := by decide +kernel
theorem dX6_node_392 : decode cX6_node 392 = .ok (.getfield 37, 3) := by decide +kernel
theorem dX6_node_395 : decode cX6_node 395 = .ok (.aload_n 0, 1) := by decide +kernel
theorem dX6_node_396 : decode cX6_node 396 = .ok (.getfield 116, 3) := by decide +kernel
theorem dX6_node_399 : decode cX6_node 399 = .ok (.iload 8, 2) := by decide +kernel
theorem dX6_node_401 : decode cX6_node 401 = .ok (.iadd, 1) := by decide +kernel
theorem dX6_node_402 : decode cX6_node 402 = .ok (.iload 9, 2) := by decide +kernel
theorem dX6_node_404 : decode cX6_node 404 = .ok (.iastore, 1) := by decide +kernel
theorem dX6_node_405 : decode cX6_node 405 = .ok (.iload 6, 2) := by decide +kernel
theorem dX6_node_407 : decode cX6_node 407 = .ok (.aload_n 0, 1) := by decide +kernel
theorem dX6_node_408 : decode cX6_node 408 = .ok (.getfield 22, 3) := by decide +kernel
theorem dX6_node_411 : decode cX6_node 411 = .ok (.iload 9, 2) := by decide +kernel
theorem dX6_node_413 : decode cX6_node 413 = .ok (.iaload, 1) := by decide +kernel
theorem dX6_node_414 : decode cX6_node 414 = .ok (.iadd, 1) := by decide +kernel
theorem dX6_node_415 : decode cX6_node 415 = .ok (.istore 6, 2) := by decide +kernel
theorem dX6_node_417 : decode cX6_node 417 = .ok (.iload 10, 2) := by decide +kernel
theorem dX6_node_419 : decode cX6_node 419 = .ok (.iload 7, 2) := by decide +kernel
theorem dX6_node_421 : decode cX6_node 421 = .ok (.if_icmp .le 8, 3) := by decide +kernel
theorem dX6_node_424 : decode cX6_node 424 = .ok (.iload 10, 2) := by decide +kernel
theorem dX6_node_426 : decode cX6_node 426 = .ok (.goto 5, 3) := by decide +kernel
theorem dX6_node_429 : decode cX6_node 429 = .ok (.iload 7, 2) := by decide +kernel
theorem dX6_node_431 : decode cX6_node 431 = .ok (.istore 7, 2) := by decide +kernel
theorem dX6_node_433 : decode cX6_node 433 = .ok (.iinc 8 1, 3) := by decide +kernel
theorem dX6_node_436 : decode cX6_node 436 = .ok (.goto (-84), 3) := by decide +kernel
theorem dX6_node_439 : decode cX6_node 439 = .ok (.aload_n 0, 1) := by decide +kernel
theorem dX6_node_440 : decode cX6_node 440 = .ok (.getfield 7, 3) := by decide +kernel
theorem dX6_node_443 : decode cX6_node 443 = .ok (.aload_n 0, 1) := by decide +kernel
theorem dX6_node_444 : decode cX6_node 444 = .ok (.getfield 113, 3) := by decide +kernel
theorem dX6_node_447 : decode cX6_node 447 = .ok (.iload_n 1, 1) := by decide +kernel
theorem dX6_node_448 : decode cX6_node 448 = .ok (.iastore, 1) := by decide +kernel
theorem dX6_node_449 : decode cX6_node 449 = .ok (.aload_n 0, 1) := by decide +kernel
theorem dX6_node_450 : decode cX6_node 450 = .ok (.getfield 13, 3) := by decide +kernel
theorem dX6_node_453 : decode cX6_node 453 = .ok (.aload_n 0, 1) := by decide +kernel
theorem dX6_node_454 : decode cX6_node 454 = .ok (.getfield 113, 3) := by decide +kernel
theorem dX6_node_457 : decode cX6_node 457 = .ok (.iload_n 2, 1) := by decide +kernel
theorem dX6_node_458 : decode cX6_node 458 = .ok (.iastore, 1) := by decide +kernel
theorem dX6_node_459 : decode cX6_node 459 = .ok (.aload_n 0, 1) := by decide +kernel
theorem dX6_node_460 : decode cX6_node 460 = .ok (.getfield 16, 3) := by decide +kernel
theorem dX6_node_463 : decode cX6_node 463 = .ok (.aload_n 0, 1) := by decide +kernel
theorem dX6_node_464 : decode cX6_node 464 = .ok (.getfield 113, 3) := by decide +kernel
theorem dX6_node_467 : decode cX6_node 467 = .ok (.aload_n 0, 1) := by decide +kernel
theorem dX6_node_468 : decode cX6_node 468 = .ok (.getfield 116, 3) := by decide +kernel
theorem dX6_node_471 : decode cX6_node 471 = .ok (.iastore, 1) := by decide +kernel
theorem dX6_node_472 : decode cX6_node 472 = .ok (.aload_n 0, 1) := by decide +kernel
theorem dX6_node_473 : decode cX6_node 473 = .ok (.getfield 19, 3) := by decide +kernel
theorem dX6_node_476 : decode cX6_node 476 = .ok (.aload_n 0, 1) := by decide +kernel
theorem dX6_node_477 : decode cX6_node 477 = .ok (.getfield 113, 3) := by decide +kernel
theorem dX6_node_480 : decode cX6_node 480 = .ok (.iload 4, 2) := by decide +kernel
theorem dX6_node_482 : decode cX6_node 482 = .ok (.iastore, 1) := by decide +kernel
theorem dX6_node_483 : decode cX6_node 483 = .ok (.aload_n 0, 1) := by decide +kernel
theorem dX6_node_484 : decode cX6_node 484 = .ok (.getfield 22, 3) := by decide +kernel
theorem dX6_node_487 : decode cX6_node 487 = .ok (.aload_n 0, 1) := by decide +kernel
theorem dX6_node_488 : decode cX6_node 488 = .ok (.getfield 113, 3) := by decide +kernel
theorem dX6_node_491 : decode cX6_node 491 = .ok (.iload 6, 2) := by decide +kernel
theorem dX6_node_493 : decode cX6_node 493 = .ok (.iastore, 1) := by decide +kernel
theorem dX6_node_494 : decode cX6_node 494 = .ok (.aload_n 0, 1) := by decide +kernel
theorem dX6_node_495 : decode cX6_node 495 = .ok (.getfield 25, 3) := by decide +kernel
theorem dX6_node_498 : decode cX6_node 498 = .ok (.aload_n 0, 1) := by decide +kernel
theorem dX6_node_499 : decode cX6_node 499 = .ok (.getfield 113, 3) := by decide +kernel
theorem dX6_node_502 : decode cX6_node 502 = .ok (.iload 7, 2) := by decide +kernel
theorem dX6_node_504 : decode cX6_node 504 = .ok (.iastore, 1) := by decide +kernel
theorem dX6_node_505 : decode cX6_node 505 = .ok (.aload_n 0, 1) := by decide +kernel
theorem dX6_node_506 : decode cX6_node 506 = .ok (.dup, 1) := by decide +kernel
theorem dX6_node_507 : decode cX6_node 507 = .ok (.getfield 116, 3) := by decide +kernel
theorem dX6_node_510 : decode cX6_node 510 = .ok (.iload 4, 2) := by decide +kernel
theorem dX6_node_512 : decode cX6_node 512 = .ok (.iadd, 1) := by decide +kernel
theorem dX6_node_513 : decode cX6_node 513 = .ok (.putfield 116, 3) := by decide +kernel
theorem dX6_node_516 : decode cX6_node 516 = .ok (.aload_n 0, 1) := by decide +kernel
theorem dX6_node_517 : decode cX6_node 517 = .ok (.iload_n 3, 1) := by decide +kernel
theorem dX6_node_518 : decode cX6_node 518 = .ok (.putfield 103, 3) := by decide +kernel
theorem dX6_node_521 : decode cX6_node 521 = .ok (.aload_n 0, 1) := by decide +kernel
theorem dX6_node_522 : decode cX6_node 522 = .ok (.getfield 28, 3) := by decide +kernel
theorem dX6_node_525 : decode cX6_node 525 = .ok (.aload_n 0, 1) := by decide +kernel
theorem dX6_node_526 : decode cX6_node 526 = .ok (.getfield 113, 3) := by decide +kernel
theorem dX6_node_529 : decode cX6_node 529 = .ok (.aload_n 0, 1) := by decide +kernel
theorem dX6_node_530 : decode cX6_node 530 = .ok (.getfield 34, 3) := by decide +kernel
theorem dX6_node_533 : decode cX6_node 533 = .ok (.iload 5, 2) := by decide +kernel
theorem dX6_node_535 : decode cX6_node 535 = .ok (.iaload, 1) := by decide +kernel
theorem dX6_node_536 : decode cX6_node 536 = .ok (.iastore, 1) := by decide +kernel
theorem dX6_node_537 : decode cX6_node 537 = .ok (.aload_n 0, 1) := by decide +kernel
theorem dX6_node_538 : decode cX6_node 538 = .ok (.getfield 31, 3) := by decide +kernel
theorem dX6_node_541 : decode cX6_node 541 = .ok (.aload_n 0, 1) := by decide +kernel
theorem dX6_node_542 : decode cX6_node 542 = .ok (.getfield 113, 3) := by decide +kernel
theorem dX6_node_545 : decode cX6_node 545 = .ok (.iload 5, 2) := by decide +kernel
theorem dX6_node_547 : decode cX6_node 547 = .ok (.iastore, 1) := by decide +kernel
theorem dX6_node_548 : decode cX6_node 548 = .ok (.aload_n 0, 1) := by decide +kernel
theorem dX6_node_549 : decode cX6_node 549 = .ok (.getfield 34, 3) := by decide +kernel
theorem dX6_node_552 : decode cX6_node 552 = .ok (.iload 5, 2) := by decide +kernel
theorem dX6_node_554 : decode cX6_node 554 = .ok (.aload_n 0, 1) := by decide +kernel
theorem dX6_node_555 : decode cX6_node 555 = .ok (.getfield 113, 3) := by decide +kernel
theorem dX6_node_558 : decode cX6_node 558 = .ok (.iastore, 1) := by decide +kernel
theorem dX6_node_559 : decode cX6_node 559 = .ok (.aload_n 0, 1) := by decide +kernel
theorem dX6_node_560 : decode cX6_node 560 = .ok (.getfield 113, 3) := by decide +kernel
theorem dX6_node_563 : decode cX6_node 563 = .ok (.ireturn, 1) := by decide +kernel
