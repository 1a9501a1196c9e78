section
variable {p : Program} {l : Launch} {e : Env} {s : State} {m : MethodId} {below : List Frame} {meth : Method} {c : Code} {D : va_G} {aC : Nat → ClassId} {ad : Nat → Nat}
theorem dX12_reckons_0 : decode cX12_reckons 0 = .ok (.lconst 0, 1) := by decide +kernel
theorem dX12_reckons_1 : decode cX12_reckons 1 = .ok (.lstore_n 3, 1) := by decide +kernel
theorem dX12_reckons_2 : decode cX12_reckons 2 = .ok (.lconst 1, 1) := by decide +kernel
theorem dX12_reckons_3 : decode cX12_reckons 3 = .ok (.lstore 5, 2) := by decide +kernel
theorem dX12_reckons_5 : decode cX12_reckons 5 = .ok (.lconst 1, 1) := by decide +kernel
theorem dX12_reckons_6 : decode cX12_reckons 6 = .ok (.lstore 7, 2) := by decide +kernel
theorem dX12_reckons_8 : decode cX12_reckons 8 = .ok (.lconst 1, 1) := by decide +kernel
theorem dX12_reckons_9 : decode cX12_reckons 9 = .ok (.lstore 9, 2) := by decide +kernel
theorem dX12_reckons_11 : decode cX12_reckons 11 = .ok (.lconst 0, 1) := by decide +kernel
theorem dX12_reckons_12 : decode cX12_reckons 12 = .ok (.lstore 11, 2) := by decide +kernel
theorem dX12_reckons_14 : decode cX12_reckons 14 = .ok (.lconst 0, 1) := by decide +kernel
theorem dX12_reckons_15 : decode cX12_reckons 15 = .ok (.lstore 13, 2) := by decide +kernel
theorem dX12_reckons_17 : decode cX12_reckons 17 = .ok (.lconst 0, 1) := by decide +kernel
theorem dX12_reckons_18 : decode cX12_reckons 18 = .ok (.lstore 15, 2) := by decide +kernel
theorem dX12_reckons_20 : decode cX12_reckons 20 = .ok (.lconst 0, 1) := by decide +kernel
theorem dX12_reckons_21 : decode cX12_reckons 21 = .ok (.lstore 17, 2) := by decide +kernel
theorem dX12_reckons_23 : decode cX12_reckons 23 = .ok (.iconst 0, 1) := by decide +kernel
theorem dX12_reckons_24 : decode cX12_reckons 24 = .ok (.istore 19, 2) := by decide +kernel
theorem dX12_reckons_26 : decode cX12_reckons 26 = .ok (.iconst 0, 1) := by decide +kernel
theorem dX12_reckons_27 : decode cX12_reckons 27 = .ok (.istore 20, 2) := by decide +kernel
theorem dX12_reckons_29 : decode cX12_reckons 29 = .ok (.iconst 0, 1) := by decide +kernel
theorem dX12_reckons_30 : decode cX12_reckons 30 = .ok (.istore 21, 2) := by decide +kernel
theorem dX12_reckons_32 : decode cX12_reckons 32 = .ok (.iload 21, 2) := by decide +kernel
theorem dX12_reckons_34 : decode cX12_reckons 34 = .ok (.aload_n 0, 1) := by decide +kernel
theorem dX12_reckons_35 : decode cX12_reckons 35 = .ok (.getfield 350, 3) := by decide +kernel
theorem dX12_reckons_38 : decode cX12_reckons 38 = .ok (.if_icmp .ge 369, 3) := by decide +kernel
theorem dX12_reckons_41 : decode cX12_reckons 41 = .ok (.aload_n 0, 1) := by decide +kernel
theorem dX12_reckons_42 : decode cX12_reckons 42 = .ok (.getfield 85, 3) := by decide +kernel
theorem dX12_reckons_45 : decode cX12_reckons 45 = .ok (.iload 21, 2) := by decide +kernel
theorem dX12_reckons_47 : decode cX12_reckons 47 = .ok (.iaload, 1) := by decide +kernel
theorem dX12_reckons_48 : decode cX12_reckons 48 = .ok (.iconst 2, 1) := by decide +kernel
theorem dX12_reckons_49 : decode cX12_reckons 49 = .ok (.if_icmp .ne 352, 3) := by decide +kernel
theorem dX12_reckons_52 : decode cX12_reckons 52 = .ok (.aload_n 0, 1) := by decide +kernel
theorem dX12_reckons_53 : decode cX12_reckons 53 = .ok (.getfield 97, 3) := by decide +kernel
theorem dX12_reckons_56 : decode cX12_reckons 56 = .ok (.iload 21, 2) := by decide +kernel
theorem dX12_reckons_58 : decode cX12_reckons 58 = .ok (.iaload, 1) := by decide +kernel
theorem dX12_reckons_59 : decode cX12_reckons 59 = .ok (.iload_n 1, 1) := by decide +kernel
theorem dX12_reckons_60 : decode cX12_reckons 60 = .ok (.if_icmp .eq 6, 3) := by decide +kernel
theorem dX12_reckons_63 : decode cX12_reckons 63 = .ok (.goto 338, 3) := by decide +kernel
theorem dX12_reckons_66 : decode cX12_reckons 66 = .ok (.iconst 0, 1) := by decide +kernel
theorem dX12_reckons_67 : decode cX12_reckons 67 = .ok (.istore 22, 2) := by decide +kernel
theorem dX12_reckons_69 : decode cX12_reckons 69 = .ok (.iload 22, 2) := by decide +kernel
theorem dX12_reckons_71 : decode cX12_reckons 71 = .ok (.aload_n 0, 1) := by decide +kernel
theorem dX12_reckons_72 : decode cX12_reckons 72 = .ok (.iload 21, 2) := by decide +kernel
theorem dX12_reckons_74 : decode cX12_reckons 74 = .ok (.invokevirtual 530, 3) := by decide +kernel
theorem dX12_reckons_77 : decode cX12_reckons 77 = .ok (.if_icmp .ge 324, 3) := by decide +kernel
theorem dX12_reckons_80 : decode cX12_reckons 80 = .ok (.aload_n 0, 1) := by decide +kernel
theorem dX12_reckons_81 : decode cX12_reckons 81 = .ok (.getfield 198, 3) := by decide +kernel
theorem dX12_reckons_84 : decode cX12_reckons 84 = .ok (.bipush 125, 2) := by decide +kernel
theorem dX12_reckons_86 : decode cX12_reckons 86 = .ok (.iload 21, 2) := by decide +kernel
theorem dX12_reckons_88 : decode cX12_reckons 88 = .ok (.imul, 1) := by decide +kernel
theorem dX12_reckons_89 : decode cX12_reckons 89 = .ok (.iload 22, 2) := by decide +kernel
theorem dX12_reckons_91 : decode cX12_reckons 91 = .ok (.iadd, 1) := by decide +kernel
theorem dX12_reckons_92 : decode cX12_reckons 92 = .ok (.baload, 1) := by decide +kernel
theorem dX12_reckons_93 : decode cX12_reckons 93 = .ok (.ifCond .ne 6, 3) := by decide +kernel
theorem dX12_reckons_96 : decode cX12_reckons 96 = .ok (.goto 299, 3) := by decide +kernel
theorem dX12_reckons_99 : decode cX12_reckons 99 = .ok (.aload_n 0, 1) := by decide +kernel
theorem dX12_reckons_100 : decode cX12_reckons 100 = .ok (.iload 21, 2) := by decide +kernel
theorem dX12_reckons_102 : decode cX12_reckons 102 = .ok (.iload 22, 2) := by decide +kernel
theorem dX12_reckons_104 : decode cX12_reckons 104 = .ok (.invokevirtual 546, 3) := by decide +kernel
theorem dX12_reckons_107 : decode cX12_reckons 107 = .ok (.aload_n 0, 1) := by decide +kernel
theorem dX12_reckons_108 : decode cX12_reckons 108 = .ok (.getfield 104, 3) := by decide +kernel
theorem dX12_reckons_111 : decode cX12_reckons 111 = .ok (.iload 21, 2) := by decide +kernel
theorem dX12_reckons_113 : decode cX12_reckons 113 = .ok (.iaload, 1) := by decide +kernel
theorem dX12_reckons_114 : decode cX12_reckons 114 = .ok (.aload_n 0, 1) := by decide +kernel
theorem dX12_reckons_115 : decode cX12_reckons 115 = .ok (.getfield 216, 3) := by decide +kernel
theorem dX12_reckons_118 : decode cX12_reckons 118 = .ok (.invokestatic 470, 3) := by decide +kernel
theorem dX12_reckons_121 : decode cX12_reckons 121 = .ok (.iload_n 2, 1) := by decide +kernel
theorem dX12_reckons_122 : decode cX12_reckons 122 = .ok (.if_icmp .eq 6, 3) := by decide +kernel
theorem dX12_reckons_125 : decode cX12_reckons 125 = .ok (.goto 270, 3) := by decide +kernel
theorem dX12_reckons_128 : decode cX12_reckons 128 = .ok (.iinc 19 1, 3) := by decide +kernel
theorem dX12_reckons_131 : decode cX12_reckons 131 = .ok (.iload 20, 2) := by decide +kernel
theorem dX12_reckons_133 : decode cX12_reckons 133 = .ok (.ifCond .eq 6, 3) := by decide +kernel
theorem dX12_reckons_136 : decode cX12_reckons 136 = .ok (.goto 259, 3) := by decide +kernel
theorem dX12_reckons_139 : decode cX12_reckons 139 = .ok (.aload_n 0, 1) := by decide +kernel
theorem dX12_reckons_140 : decode cX12_reckons 140 = .ok (.aload_n 0, 1) := by decide +kernel
theorem dX12_reckons_141 : decode cX12_reckons 141 = .ok (.getfield 113, 3) := by decide +kernel
theorem dX12_reckons_144 : decode cX12_reckons 144 = .ok (.iload 21, 2) := by decide +kernel
theorem dX12_reckons_146 : decode cX12_reckons 146 = .ok (.iaload, 1) := by decide +kernel
theorem dX12_reckons_147 : decode cX12_reckons 147 = .ok (.aload_n 0, 1) := by decide +kernel
theorem dX12_reckons_148 : decode cX12_reckons 148 = .ok (.getfield 116, 3) := by decide +kernel
theorem dX12_reckons_151 : decode cX12_reckons 151 = .ok (.iload 21, 2) := by decide +kernel
theorem dX12_reckons_153 : decode cX12_reckons 153 = .ok (.iaload, 1) := by decide +kernel
theorem dX12_reckons_154 : decode cX12_reckons 154 = .ok (.aload_n 0, 1) := by decide +kernel
theorem dX12_reckons_155 : decode cX12_reckons 155 = .ok (.getfield 216, 3) := by decide +kernel
theorem dX12_reckons_158 : decode cX12_reckons 158 = .ok (.invokevirtual 481, 3) := by decide +kernel
theorem dX12_reckons_161 : decode cX12_reckons 161 = .ok (.aload_n 0, 1) := by decide +kernel
theorem dX12_reckons_162 : decode cX12_reckons 162 = .ok (.getfield 463, 3) := by decide +kernel
theorem dX12_reckons_165 : decode cX12_reckons 165 = .ok (.ifCond .eq 9, 3) := by decide +kernel
theorem dX12_reckons_168 : decode cX12_reckons 168 = .ok (.iconst 1, 1) := by decide +kernel
theorem dX12_reckons_169 : decode cX12_reckons 169 = .ok (.istore 20, 2) := by decide +kernel
theorem dX12_reckons_171 : decode cX12_reckons 171 = .ok (.goto 224, 3) := by decide +kernel
theorem dX12_reckons_174 : decode cX12_reckons 174 = .ok (.aload_n 0, 1) := by decide +kernel
theorem dX12_reckons_175 : decode cX12_reckons 175 = .ok (.getfield 452, 3) := by decide +kernel
theorem dX12_reckons_178 : decode cX12_reckons 178 = .ok (.lstore 23, 2) := by decide +kernel
theorem dX12_reckons_180 : decode cX12_reckons 180 = .ok (.aload_n 0, 1) := by decide +kernel
theorem dX12_reckons_181 : decode cX12_reckons 181 = .ok (.getfield 456, 3) := by decide +kernel
theorem dX12_reckons_184 : decode cX12_reckons 184 = .ok (.lstore 25, 2) := by decide +kernel
theorem dX12_reckons_186 : decode cX12_reckons 186 = .ok (.aload_n 0, 1) := by decide +kernel
theorem dX12_reckons_187 : decode cX12_reckons 187 = .ok (.getfield 110, 3) := by decide +kernel
theorem dX12_reckons_190 : decode cX12_reckons 190 = .ok (.iload 21, 2) := by decide +kernel
theorem dX12_reckons_192 : decode cX12_reckons 192 = .ok (.iaload, 1) := by decide +kernel
theorem dX12_reckons_193 : decode cX12_reckons 193 = .ok (.tableswitch 140 0 2 #[27, 53, 81], 27) := by decide +kernel
theorem dX12_reckons_220 : decode cX12_reckons 220 = .ok (.aload_n 0, 1) := by decide +kernel
theorem dX12_reckons_221 : decode cX12_reckons 221 = .ok (.iconst 3, 1) := by decide +kernel
theorem dX12_reckons_222 : decode cX12_reckons 222 = .ok (.lload_n 3, 1) := by decide +kernel
theorem dX12_reckons_223 : decode cX12_reckons 223 = .ok (.lload 5, 2) := by decide +kernel
theorem dX12_reckons_225 : decode cX12_reckons 225 = .ok (.lload 23, 2) := by decide +kernel
theorem dX12_reckons_227 : decode cX12_reckons 227 = .ok (.lload 25, 2) := by decide +kernel
theorem dX12_reckons_229 : decode cX12_reckons 229 = .ok (.invokevirtual 474, 3) := by decide +kernel
theorem dX12_reckons_232 : decode cX12_reckons 232 = .ok (.aload_n 0, 1) := by decide +kernel
theorem dX12_reckons_233 : decode cX12_reckons 233 = .ok (.getfield 452, 3) := by decide +kernel
theorem dX12_reckons_236 : decode cX12_reckons 236 = .ok (.lstore_n 3, 1) := by decide +kernel
theorem dX12_reckons_237 : decode cX12_reckons 237 = .ok (.aload_n 0, 1) := by decide +kernel
theorem dX12_reckons_238 : decode cX12_reckons 238 = .ok (.getfield 456, 3) := by decide +kernel
theorem dX12_reckons_241 : decode cX12_reckons 241 = .ok (.lstore 5, 2) := by decide +kernel
theorem dX12_reckons_243 : decode cX12_reckons 243 = .ok (.goto 146, 3) := by decide +kernel
theorem dX12_reckons_246 : decode cX12_reckons 246 = .ok (.aload_n 0, 1) := by decide +kernel
theorem dX12_reckons_247 : decode cX12_reckons 247 = .ok (.iconst 5, 1) := by decide +kernel
theorem dX12_reckons_248 : decode cX12_reckons 248 = .ok (.lload 7, 2) := by decide +kernel
theorem dX12_reckons_250 : decode cX12_reckons 250 = .ok (.lload 9, 2) := by decide +kernel
theorem dX12_reckons_252 : decode cX12_reckons 252 = .ok (.lload 23, 2) := by decide +kernel
theorem dX12_reckons_254 : decode cX12_reckons 254 = .ok (.lload 25, 2) := by decide +kernel
theorem dX12_reckons_256 : decode cX12_reckons 256 = .ok (.invokevirtual 474, 3) := by decide +kernel
theorem dX12_reckons_259 : decode cX12_reckons 259 = .ok (.aload_n 0, 1) := by decide +kernel
theorem dX12_reckons_260 : decode cX12_reckons 260 = .ok (.getfield 452, 3) := by decide +kernel
theorem dX12_reckons_263 : decode cX12_reckons 263 = .ok (.lstore 7, 2) := by decide +kernel
theorem dX12_reckons_265 : decode cX12_reckons 265 = .ok (.aload_n 0, 1) := by decide +kernel
theorem dX12_reckons_266 : decode cX12_reckons 266 = .ok (.getfield 456, 3) := by decide +kernel
theorem dX12_reckons_269 : decode cX12_reckons 269 = .ok (.lstore 9, 2) := by decide +kernel
theorem dX12_reckons_271 : decode cX12_reckons 271 = .ok (.goto 118, 3) := by decide +kernel
theorem dX12_reckons_274 : decode cX12_reckons 274 = .ok (.lload 13, 2) := by decide +kernel
theorem dX12_reckons_276 : decode cX12_reckons 276 = .ok (.lconst 0, 1) := by decide +kernel
theorem dX12_reckons_277 : decode cX12_reckons 277 = .ok (.lcmp, 1) := by decide +kernel
theorem dX12_reckons_278 : decode cX12_reckons 278 = .ok (.ifCond .eq 17, 3) := by decide +kernel
theorem dX12_reckons_281 : decode cX12_reckons 281 = .ok (.lload 23, 2) := by decide +kernel
theorem dX12_reckons_283 : decode cX12_reckons 283 = .ok (.lload 25, 2) := by decide +kernel
theorem dX12_reckons_285 : decode cX12_reckons 285 = .ok (.lload 11, 2) := by decide +kernel
theorem dX12_reckons_287 : decode cX12_reckons 287 = .ok (.lload 13, 2) := by decide +kernel
theorem dX12_reckons_289 : decode cX12_reckons 289 = .ok (.invokestatic 485, 3) := by decide +kernel
theorem dX12_reckons_292 : decode cX12_reckons 292 = .ok (.ifCond .ge 7, 3) := by decide +kernel
theorem dX12_reckons_295 : decode cX12_reckons 295 = .ok (.iconst 1, 1) := by decide +kernel
theorem dX12_reckons_296 : decode cX12_reckons 296 = .ok (.goto 4, 3) := by decide +kernel
theorem dX12_reckons_299 : decode cX12_reckons 299 = .ok (.iconst 0, 1) := by decide +kernel
theorem dX12_reckons_300 : decode cX12_reckons 300 = .ok (.istore 27, 2) := by decide +kernel
theorem dX12_reckons_302 : decode cX12_reckons 302 = .ok (.iload 27, 2) := by decide +kernel
theorem dX12_reckons_304 : decode cX12_reckons 304 = .ok (.ifCond .eq 8, 3) := by decide +kernel
theorem dX12_reckons_307 : decode cX12_reckons 307 = .ok (.lload 23, 2) := by decide +kernel
theorem dX12_reckons_309 : decode cX12_reckons 309 = .ok (.goto 5, 3) := by decide +kernel
theorem dX12_reckons_312 : decode cX12_reckons 312 = .ok (.lload 11, 2) := by decide +kernel
theorem dX12_reckons_314 : decode cX12_reckons 314 = .ok (.lstore 11, 2) := by decide +kernel
theorem dX12_reckons_316 : decode cX12_reckons 316 = .ok (.iload 27, 2) := by decide +kernel
theorem dX12_reckons_318 : decode cX12_reckons 318 = .ok (.ifCond .eq 8, 3) := by decide +kernel
theorem dX12_reckons_321 : decode cX12_reckons 321 = .ok (.lload 25, 2) := by decide +kernel
theorem dX12_reckons_323 : decode cX12_reckons 323 = .ok (.goto 5, 3) := by decide +kernel
theorem dX12_reckons_326 : decode cX12_reckons 326 = .ok (.lload 13, 2) := by decide +kernel
theorem dX12_reckons_328 : decode cX12_reckons 328 = .ok (.lstore 13, 2) := by decide +kernel
theorem dX12_reckons_330 : decode cX12_reckons 330 = .ok (.goto 59, 3) := by decide +kernel
theorem dX12_reckons_333 : decode cX12_reckons 333 = .ok (.lload 17, 2) := by decide +kernel
theorem dX12_reckons_335 : decode cX12_reckons 335 = .ok (.lconst 0, 1) := by decide +kernel
theorem dX12_reckons_336 : decode cX12_reckons 336 = .ok (.lcmp, 1) := by decide +kernel
theorem dX12_reckons_337 : decode cX12_reckons 337 = .ok (.ifCond .eq 17, 3) := by decide +kernel
theorem dX12_reckons_340 : decode cX12_reckons 340 = .ok (.lload 23, 2) := by decide +kernel
theorem dX12_reckons_342 : decode cX12_reckons 342 = .ok (.lload 25, 2) := by decide +kernel
theorem dX12_reckons_344 : decode cX12_reckons 344 = .ok (.lload 15, 2) := by decide +kernel
theorem dX12_reckons_346 : decode cX12_reckons 346 = .ok (.lload 17, 2) := by decide +kernel
theorem dX12_reckons_348 : decode cX12_reckons 348 = .ok (.invokestatic 485, 3) := by decide +kernel
theorem dX12_reckons_351 : decode cX12_reckons 351 = .ok (.ifCond .le 7, 3) := by decide +kernel
theorem dX12_reckons_354 : decode cX12_reckons 354 = .ok (.iconst 1, 1) := by decide +kernel
theorem dX12_reckons_355 : decode cX12_reckons 355 = .ok (.goto 4, 3) := by decide +kernel
theorem dX12_reckons_358 : decode cX12_reckons 358 = .ok (.iconst 0, 1) := by decide +kernel
theorem dX12_reckons_359 : decode cX12_reckons 359 = .ok (.istore 27, 2) := by decide +kernel
theorem dX12_reckons_361 : decode cX12_reckons 361 = .ok (.iload 27, 2) := by decide +kernel
theorem dX12_reckons_363 : decode cX12_reckons 363 = .ok (.ifCond .eq 8, 3) := by decide +kernel
theorem dX12_reckons_366 : decode cX12_reckons 366 = .ok (.lload 23, 2) := by decide +kernel
theorem dX12_reckons_368 : decode cX12_reckons 368 = .ok (.goto 5, 3) := by decide +kernel
theorem dX12_reckons_371 : decode cX12_reckons 371 = .ok (.lload 15, 2) := by decide +kernel
theorem dX12_reckons_373 : decode cX12_reckons 373 = .ok (.lstore 15, 2) := by decide +kernel
theorem dX12_reckons_375 : decode cX12_reckons 375 = .ok (.iload 27, 2) := by decide +kernel
theorem dX12_reckons_377 : decode cX12_reckons 377 = .ok (.ifCond .eq 8, 3) := by decide +kernel
theorem dX12_reckons_380 : decode cX12_reckons 380 = .ok (.lload 25, 2) := by decide +kernel
theorem dX12_reckons_382 : decode cX12_reckons 382 = .ok (.goto 5, 3) := by decide +kernel
theorem dX12_reckons_385 : decode cX12_reckons 385 = .ok (.lload 17, 2) := by decide +kernel
theorem dX12_reckons_387 : decode cX12_reckons 387 = .ok (.lstore 17, 2) := by decide +kernel
theorem dX12_reckons_389 : decode cX12_reckons 389 = .ok (.aload_n 0, 1) := by decide +kernel
theorem dX12_reckons_390 : decode cX12_reckons 390 = .ok (.getfield 463, 3) := by decide +kernel
theorem dX12_reckons_393 : decode cX12_reckons 393 = .ok (.istore 20, 2) := by decide +kernel
theorem dX12_reckons_395 : decode cX12_reckons 395 = .ok (.iinc 22 1, 3) := by decide +kernel
theorem dX12_reckons_398 : decode cX12_reckons 398 = .ok (.goto (-329), 3) := by decide +kernel
theorem dX12_reckons_401 : decode cX12_reckons 401 = .ok (.iinc 21 1, 3) := by decide +kernel
theorem dX12_reckons_404 : decode cX12_reckons 404 = .ok (.goto (-372), 3) := by decide +kernel
theorem dX12_reckons_407 : decode cX12_reckons 407 = .ok (.iload 20, 2) := by decide +kernel
theorem dX12_reckons_409 : decode cX12_reckons 409 = .ok (.ifCond .ne 37, 3) := by decide +kernel
theorem dX12_reckons_412 : decode cX12_reckons 412 = .ok (.aload_n 0, 1) := by decide +kernel
theorem dX12_reckons_413 : decode cX12_reckons 413 = .ok (.iconst 0, 1) := by decide +kernel
theorem dX12_reckons_414 : decode cX12_reckons 414 = .ok (.putfield 463, 3) := by decide +kernel
theorem dX12_reckons_417 : decode cX12_reckons 417 = .ok (.aload_n 0, 1) := by decide +kernel
theorem dX12_reckons_418 : decode cX12_reckons 418 = .ok (.iconst 5, 1) := by decide +kernel
theorem dX12_reckons_419 : decode cX12_reckons 419 = .ok (.lload_n 3, 1) := by decide +kernel
theorem dX12_reckons_420 : decode cX12_reckons 420 = .ok (.lload 5, 2) := by decide +kernel
theorem dX12_reckons_422 : decode cX12_reckons 422 = .ok (.lload 7, 2) := by decide +kernel
theorem dX12_reckons_424 : decode cX12_reckons 424 = .ok (.lload 9, 2) := by decide +kernel
theorem dX12_reckons_426 : decode cX12_reckons 426 = .ok (.invokevirtual 474, 3) := by decide +kernel
theorem dX12_reckons_429 : decode cX12_reckons 429 = .ok (.aload_n 0, 1) := by decide +kernel
theorem dX12_reckons_430 : decode cX12_reckons 430 = .ok (.getfield 463, 3) := by decide +kernel
theorem dX12_reckons_433 : decode cX12_reckons 433 = .ok (.istore 20, 2) := by decide +kernel
theorem dX12_reckons_435 : decode cX12_reckons 435 = .ok (.aload_n 0, 1) := by decide +kernel
theorem dX12_reckons_436 : decode cX12_reckons 436 = .ok (.getfield 452, 3) := by decide +kernel
theorem dX12_reckons_439 : decode cX12_reckons 439 = .ok (.lstore_n 3, 1) := by decide +kernel
theorem dX12_reckons_440 : decode cX12_reckons 440 = .ok (.aload_n 0, 1) := by decide +kernel
theorem dX12_reckons_441 : decode cX12_reckons 441 = .ok (.getfield 456, 3) := by decide +kernel
theorem dX12_reckons_444 : decode cX12_reckons 444 = .ok (.lstore 5, 2) := by decide +kernel
theorem dX12_reckons_446 : decode cX12_reckons 446 = .ok (.lload 13, 2) := by decide +kernel
theorem dX12_reckons_448 : decode cX12_reckons 448 = .ok (.lconst 0, 1) := by decide +kernel
theorem dX12_reckons_449 : decode cX12_reckons 449 = .ok (.lcmp, 1) := by decide +kernel
theorem dX12_reckons_450 : decode cX12_reckons 450 = .ok (.ifCond .le 23, 3) := by decide +kernel
theorem dX12_reckons_453 : decode cX12_reckons 453 = .ok (.lload_n 3, 1) := by decide +kernel
theorem dX12_reckons_454 : decode cX12_reckons 454 = .ok (.lload 5, 2) := by decide +kernel
theorem dX12_reckons_456 : decode cX12_reckons 456 = .ok (.lload 11, 2) := by decide +kernel
theorem dX12_reckons_458 : decode cX12_reckons 458 = .ok (.lload 13, 2) := by decide +kernel
theorem dX12_reckons_460 : decode cX12_reckons 460 = .ok (.invokestatic 485, 3) := by decide +kernel
theorem dX12_reckons_463 : decode cX12_reckons 463 = .ok (.ifCond .le 10, 3) := by decide +kernel
theorem dX12_reckons_466 : decode cX12_reckons 466 = .ok (.lload 11, 2) := by decide +kernel
theorem dX12_reckons_468 : decode cX12_reckons 468 = .ok (.lstore_n 3, 1) := by decide +kernel
theorem dX12_reckons_469 : decode cX12_reckons 469 = .ok (.lload 13, 2) := by decide +kernel
theorem dX12_reckons_471 : decode cX12_reckons 471 = .ok (.lstore 5, 2) := by decide +kernel
theorem dX12_reckons_473 : decode cX12_reckons 473 = .ok (.lload 17, 2) := by decide +kernel
theorem dX12_reckons_475 : decode cX12_reckons 475 = .ok (.lconst 0, 1) := by decide +kernel
theorem dX12_reckons_476 : decode cX12_reckons 476 = .ok (.lcmp, 1) := by decide +kernel
theorem dX12_reckons_477 : decode cX12_reckons 477 = .ok (.ifCond .le 23, 3) := by decide +kernel
theorem dX12_reckons_480 : decode cX12_reckons 480 = .ok (.lload_n 3, 1) := by decide +kernel
theorem dX12_reckons_481 : decode cX12_reckons 481 = .ok (.lload 5, 2) := by decide +kernel
theorem dX12_reckons_483 : decode cX12_reckons 483 = .ok (.lload 15, 2) := by decide +kernel
theorem dX12_reckons_485 : decode cX12_reckons 485 = .ok (.lload 17, 2) := by decide +kernel
theorem dX12_reckons_487 : decode cX12_reckons 487 = .ok (.invokestatic 485, 3) := by decide +kernel
theorem dX12_reckons_490 : decode cX12_reckons 490 = .ok (.ifCond .ge 10, 3) := by decide +kernel
theorem dX12_reckons_493 : decode cX12_reckons 493 = .ok (.lload 15, 2) := by decide +kernel
theorem dX12_reckons_495 : decode cX12_reckons 495 = .ok (.lstore_n 3, 1) := by decide +kernel
theorem dX12_reckons_496 : decode cX12_reckons 496 = .ok (.lload 17, 2) := by decide +kernel
theorem dX12_reckons_498 : decode cX12_reckons 498 = .ok (.lstore 5, 2) := by decide +kernel
theorem dX12_reckons_500 : decode cX12_reckons 500 = .ok (.iconst 5, 1) := by decide +kernel
theorem dX12_reckons_501 : decode cX12_reckons 501 = .ok (.iload_n 1, 1) := by decide +kernel
theorem dX12_reckons_502 : decode cX12_reckons 502 = .ok (.imul, 1) := by decide +kernel
theorem dX12_reckons_503 : decode cX12_reckons 503 = .ok (.iload_n 2, 1) := by decide +kernel
theorem dX12_reckons_504 : decode cX12_reckons 504 = .ok (.iadd, 1) := by decide +kernel
theorem dX12_reckons_505 : decode cX12_reckons 505 = .ok (.istore 21, 2) := by decide +kernel
theorem dX12_reckons_507 : decode cX12_reckons 507 = .ok (.aload_n 0, 1) := by decide +kernel
theorem dX12_reckons_508 : decode cX12_reckons 508 = .ok (.getfield 237, 3) := by decide +kernel
theorem dX12_reckons_511 : decode cX12_reckons 511 = .ok (.iload 21, 2) := by decide +kernel
theorem dX12_reckons_513 : decode cX12_reckons 513 = .ok (.iload 19, 2) := by decide +kernel
theorem dX12_reckons_515 : decode cX12_reckons 515 = .ok (.iastore, 1) := by decide +kernel
theorem dX12_reckons_516 : decode cX12_reckons 516 = .ok (.aload_n 0, 1) := by decide +kernel
theorem dX12_reckons_517 : decode cX12_reckons 517 = .ok (.getfield 240, 3) := by decide +kernel
theorem dX12_reckons_520 : decode cX12_reckons 520 = .ok (.iload 21, 2) := by decide +kernel
theorem dX12_reckons_522 : decode cX12_reckons 522 = .ok (.iload 20, 2) := by decide +kernel
theorem dX12_reckons_524 : decode cX12_reckons 524 = .ok (.bastore, 1) := by decide +kernel
theorem dX12_reckons_525 : decode cX12_reckons 525 = .ok (.aload_n 0, 1) := by decide +kernel
theorem dX12_reckons_526 : decode cX12_reckons 526 = .ok (.getfield 231, 3) := by decide +kernel
theorem dX12_reckons_529 : decode cX12_reckons 529 = .ok (.iload 21, 2) := by decide +kernel
theorem dX12_reckons_531 : decode cX12_reckons 531 = .ok (.iload 20, 2) := by decide +kernel
theorem dX12_reckons_533 : decode cX12_reckons 533 = .ok (.ifCond .eq 7, 3) := by decide +kernel
theorem dX12_reckons_536 : decode cX12_reckons 536 = .ok (.lconst 0, 1) := by decide +kernel
theorem dX12_reckons_537 : decode cX12_reckons 537 = .ok (.goto 4, 3) := by decide +kernel
theorem dX12_reckons_540 : decode cX12_reckons 540 = .ok (.lload_n 3, 1) := by decide +kernel
theorem dX12_reckons_541 : decode cX12_reckons 541 = .ok (.lastore, 1) := by decide +kernel
theorem dX12_reckons_542 : decode cX12_reckons 542 = .ok (.aload_n 0, 1) := by decide +kernel
theorem dX12_reckons_543 : decode cX12_reckons 543 = .ok (.getfield 234, 3) := by decide +kernel
theorem dX12_reckons_546 : decode cX12_reckons 546 = .ok (.iload 21, 2) := by decide +kernel
theorem dX12_reckons_548 : decode cX12_reckons 548 = .ok (.iload 20, 2) := by decide +kernel
theorem dX12_reckons_550 : decode cX12_reckons 550 = .ok (.ifCond .eq 7, 3) := by decide +kernel
theorem dX12_reckons_553 : decode cX12_reckons 553 = .ok (.lconst 0, 1) := by decide +kernel
theorem dX12_reckons_554 : decode cX12_reckons 554 = .ok (.goto 5, 3) := by decide +kernel
theorem dX12_reckons_557 : decode cX12_reckons 557 = .ok (.lload 5, 2) := by decide +kernel
theorem dX12_reckons_559 : decode cX12_reckons 559 = .ok (.lastore, 1) := by decide +kernel
theorem dX12_reckons_560 : decode cX12_reckons 560 = .ok (.return_, 1) := by decide +kernel
def fX12_reckons_559  (h : MS) (s0 : Int64) (s1 : Int32) : Option (MS) :=
  oC (ix s1 (mlen 109)) (oL (mSB h 109 (Int32.toNatClampNeg s1) s0) (fun h2 => some (h2)))
set_option maxHeartbeats 4000000 in
theorem wfX12_reckons_559 {args : Array Value} (b : Bd p s m c cX12_reckons 28 RX12 D aC) (hlk : meth.locks = false) (hr : meth.sig.returnType = none) {Z : State → Prop} (zs : Z s) (zk : ZOK Z (Rg ad)) {hz : MS} {h : MS} {s0 : Int64} {s1 : Int32}  {H : Heap} {locs : List Loc} {ls : Array Slot} (hf : fX12_reckons_559 h s0 s1 = some hz) (hE : CE (EM D aC ad h) (Rg ad) s H locs) (hl : lv_has ls 28 []) : W p l e (RM 4 110 0 0) s m args below meth c H locs 0 0 (MQ below (PQ (EM D aC ad hz) (Rg ad) none) args s 0 0 (Rg ad)) (F0 m 559 ls [.long s0, .int s1, .ref (ad 109)]) := by
  unfold fX12_reckons_559 at hf
  obtain ⟨g1, hf⟩ := oC_s hf
  obtain ⟨h2, eh2, hf⟩ := oL_s hf
  refine n_last b hE rfl rfl g1 eh2 dX12_reckons_559 (fun H locs hE => ?_)
  cases hf
  exact k_vret b hlk hr hE (Nat.le_refl _) (Nat.le_refl _) dX12_reckons_560
def fX12_reckons_541  (h : MS) (x5 : Int64) (x20 : Int32) (x21 : Int32) (s0 : Int64) (s1 : Int32) : Option (MS) :=
  oC (ix s1 (mlen 108)) (oL (mSB h 108 (Int32.toNatClampNeg s1) s0) (fun h4 => if x20 = 0 then (fX12_reckons_559  h4 x5 x21) else (fX12_reckons_559  h4 0 x21)))
set_option maxHeartbeats 4000000 in
theorem wfX12_reckons_541 {args : Array Value} (b : Bd p s m c cX12_reckons 28 RX12 D aC) (hlk : meth.locks = false) (hr : meth.sig.returnType = none) {Z : State → Prop} (zs : Z s) (zk : ZOK Z (Rg ad)) {hz : MS} {h : MS} {x5 : Int64} {x20 : Int32} {x21 : Int32} {s0 : Int64} {s1 : Int32}  {H : Heap} {locs : List Loc} {ls : Array Slot} (hf : fX12_reckons_541 h x5 x20 x21 s0 s1 = some hz) (hE : CE (EM D aC ad h) (Rg ad) s H locs) (hl : lv_has ls 28 [(0, .ref (ad 116)), (5, .long x5), (20, .int x20), (21, .int x21)]) : W p l e (RM 4 110 0 0) s m args below meth c H locs 0 0 (MQ below (PQ (EM D aC ad hz) (Rg ad) none) args s 0 0 (Rg ad)) (F0 m 541 ls [.long s0, .int s1, .ref (ad 108)]) := by
  unfold fX12_reckons_541 at hf
  obtain ⟨g3, hf⟩ := oC_s hf
  obtain ⟨h4, eh4, hf⟩ := oL_s hf
  refine n_last b hE rfl rfl g3 eh4 dX12_reckons_541 (fun H locs hE => ?_)
  refine lv_aload_n b.1 b.2.1 dX12_reckons_542 rfl (lv_at hl 0 rfl) ?_
  refine gM_234 b hE dX12_reckons_543 ?_
  refine lv_iload b.1 b.2.1 dX12_reckons_546 (lv_at hl 3 rfl) ?_
  refine lv_iload b.1 b.2.1 dX12_reckons_548 (lv_at hl 2 rfl) ?_
  refine lv_if_eq (tgt := 557) b.1 b.2.1 dX12_reckons_550 (by decide) (fun c5 => ?_) (fun c5 => ?_)
  · have hf := oI_t c5 hf
    refine lv_lload b.1 b.2.1 dX12_reckons_557 (lv_at hl 1 rfl) ?_
    exact wfX12_reckons_559 b hlk hr zs zk  hf hE (lv_sub hl [] rfl)
  · have hf := oI_f c5 hf
    refine lv_lconst (v := 0) b.1 b.2.1 dX12_reckons_553 rfl ?_
    refine lv_goto (tgt := 559) b.1 b.2.1 dX12_reckons_554 (by decide) ?_
    exact wfX12_reckons_559 b hlk hr zs zk  hf hE (lv_sub hl [] rfl)
def fX12_reckons_500  (h : MS) (x1 : Int32) (x2 : Int32) (x3 : Int64) (x5 : Int64) (x19 : Int32) (x20 : Int32) : Option (MS) :=
  oL ((5 * x1) + x2) (fun y6 => oC (ix y6 (mlen 110)) (oL (mSA h 110 (Int32.toNatClampNeg y6) x19) (fun h8 => oC (isB x20) (oC (ix y6 (mlen 111)) (oL (mSA h8 111 (Int32.toNatClampNeg y6) x20) (fun h11 => if x20 = 0 then (fX12_reckons_541  h11 x5 x20 y6 x3 y6) else (fX12_reckons_541  h11 x5 x20 y6 0 y6)))))))
set_option maxHeartbeats 4000000 in
theorem wfX12_reckons_500 {args : Array Value} (b : Bd p s m c cX12_reckons 28 RX12 D aC) (hlk : meth.locks = false) (hr : meth.sig.returnType = none) {Z : State → Prop} (zs : Z s) (zk : ZOK Z (Rg ad)) {hz : MS} {h : MS} {x1 : Int32} {x2 : Int32} {x3 : Int64} {x5 : Int64} {x19 : Int32} {x20 : Int32}  {H : Heap} {locs : List Loc} {ls : Array Slot} (hf : fX12_reckons_500 h x1 x2 x3 x5 x19 x20 = some hz) (hE : CE (EM D aC ad h) (Rg ad) s H locs) (hl : lv_has ls 28 [(0, .ref (ad 116)), (1, .int x1), (2, .int x2), (3, .long x3), (5, .long x5), (19, .int x19), (20, .int x20)]) : W p l e (RM 4 110 0 0) s m args below meth c H locs 0 0 (MQ below (PQ (EM D aC ad hz) (Rg ad) none) args s 0 0 (Rg ad)) (F0 m 500 ls []) := by
  unfold fX12_reckons_500 at hf
  refine lv_iconst (v := 5) b.1 b.2.1 dX12_reckons_500 (by decide) ?_
  refine lv_iload_n b.1 b.2.1 dX12_reckons_501 rfl (lv_at hl 1 rfl) ?_
  refine lv_imul b.1 b.2.1 dX12_reckons_502 ?_
  refine lv_iload_n b.1 b.2.1 dX12_reckons_503 rfl (lv_at hl 2 rfl) ?_
  refine lv_iadd b.1 b.2.1 dX12_reckons_504 ?_
  obtain ⟨y6, ey6, hf⟩ := oL_s hf
  refine k_nmI ey6 ?_
  refine lv_istore (lv' := [(21, .int y6), (0, .ref (ad 116)), (1, .int x1), (2, .int x2), (3, .long x3), (5, .long x5), (19, .int x19), (20, .int x20)]) b.1 b.2.1 dX12_reckons_505 hl (by decide) rfl (fun ls hl => ?_)
  have hl := lv_sub (l' := [(21, .int y6), (0, .ref (ad 116)), (3, .long x3), (5, .long x5), (19, .int x19), (20, .int x20)]) hl [0, 1, 4, 5, 6, 7] rfl
  refine lv_aload_n b.1 b.2.1 dX12_reckons_507 rfl (lv_at hl 1 rfl) ?_
  refine gM_237 b hE dX12_reckons_508 ?_
  refine lv_iload b.1 b.2.1 dX12_reckons_511 (lv_at hl 0 rfl) ?_
  refine lv_iload b.1 b.2.1 dX12_reckons_513 (lv_at hl 4 rfl) ?_
  obtain ⟨g7, hf⟩ := oC_s hf
  obtain ⟨h8, eh8, hf⟩ := oL_s hf
  refine n_iast b hE rfl rfl g7 eh8 dX12_reckons_515 (fun H locs hE => ?_)
  refine lv_aload_n b.1 b.2.1 dX12_reckons_516 rfl (lv_at hl 1 rfl) ?_
  refine gM_240 b hE dX12_reckons_517 ?_
  refine lv_iload b.1 b.2.1 dX12_reckons_520 (lv_at hl 0 rfl) ?_
  refine lv_iload b.1 b.2.1 dX12_reckons_522 (lv_at hl 5 rfl) ?_
  obtain ⟨g9, hf⟩ := oC_s hf
  obtain ⟨g10, hf⟩ := oC_s hf
  obtain ⟨h11, eh11, hf⟩ := oL_s hf
  refine n_zast b hE g9 rfl rfl g10 eh11 dX12_reckons_524 (fun H locs hE => ?_)
  refine lv_aload_n b.1 b.2.1 dX12_reckons_525 rfl (lv_at hl 1 rfl) ?_
  refine gM_231 b hE dX12_reckons_526 ?_
  refine lv_iload b.1 b.2.1 dX12_reckons_529 (lv_at hl 0 rfl) ?_
  refine lv_iload b.1 b.2.1 dX12_reckons_531 (lv_at hl 5 rfl) ?_
  refine lv_if_eq (tgt := 540) b.1 b.2.1 dX12_reckons_533 (by decide) (fun c12 => ?_) (fun c12 => ?_)
  · have hf := oI_t c12 hf
    refine lv_lload_n b.1 b.2.1 dX12_reckons_540 rfl (lv_at hl 2 rfl) ?_
    exact wfX12_reckons_541 b hlk hr zs zk  hf hE (lv_sub hl [1, 3, 5, 0] rfl)
  · have hf := oI_f c12 hf
    refine lv_lconst (v := 0) b.1 b.2.1 dX12_reckons_536 rfl ?_
    refine lv_goto (tgt := 541) b.1 b.2.1 dX12_reckons_537 (by decide) ?_
    exact wfX12_reckons_541 b hlk hr zs zk  hf hE (lv_sub hl [1, 3, 5, 0] rfl)
def fX12_reckons_473  (h : MS) (x1 : Int32) (x2 : Int32) (x3 : Int64) (x5 : Int64) (x15 : Int64) (x17 : Int64) (x19 : Int32) (x20 : Int32) : Option (MS) :=
  if (lg_cmp x17 0) ≤ 0 then (fX12_reckons_500  h x1 x2 x3 x5 x19 x20) else (oB (fX12_against x3 x5 x15 x17) (fun r15 => if 0 ≤ r15 then (fX12_reckons_500  h x1 x2 x3 x5 x19 x20) else (fX12_reckons_500  h x1 x2 x15 x17 x19 x20)))
set_option maxHeartbeats 4000000 in
theorem wfX12_reckons_473 {args : Array Value} (b : Bd p s m c cX12_reckons 28 RX12 D aC) (hlk : meth.locks = false) (hr : meth.sig.returnType = none) {Z : State → Prop} (zs : Z s) (zk : ZOK Z (Rg ad)) {hz : MS} {h : MS} {x1 : Int32} {x2 : Int32} {x3 : Int64} {x5 : Int64} {x15 : Int64} {x17 : Int64} {x19 : Int32} {x20 : Int32}  {H : Heap} {locs : List Loc} {ls : Array Slot} (hf : fX12_reckons_473 h x1 x2 x3 x5 x15 x17 x19 x20 = some hz) (hE : CE (EM D aC ad h) (Rg ad) s H locs) (hl : lv_has ls 28 [(0, .ref (ad 116)), (1, .int x1), (2, .int x2), (3, .long x3), (5, .long x5), (15, .long x15), (17, .long x17), (19, .int x19), (20, .int x20)]) : W p l e (RM 4 110 0 0) s m args below meth c H locs 0 0 (MQ below (PQ (EM D aC ad hz) (Rg ad) none) args s 0 0 (Rg ad)) (F0 m 473 ls []) := by
  unfold fX12_reckons_473 at hf
  refine lv_lload b.1 b.2.1 dX12_reckons_473 (lv_at hl 6 rfl) ?_
  refine lv_lconst (v := 0) b.1 b.2.1 dX12_reckons_475 rfl ?_
  refine W.lcmp b.1 b.2.1 dX12_reckons_476 ?_
  refine lv_if_le (tgt := 500) b.1 b.2.1 dX12_reckons_477 (by decide) (fun c13 => ?_) (fun c13 => ?_)
  · have hf := oI_t c13 hf
    exact wfX12_reckons_500 b hlk hr zs zk  hf hE (lv_sub hl [0, 1, 2, 3, 4, 7, 8] rfl)
  · have hf := oI_f c13 hf
    refine lv_lload_n b.1 b.2.1 dX12_reckons_480 rfl (lv_at hl 3 rfl) ?_
    refine lv_lload b.1 b.2.1 dX12_reckons_481 (lv_at hl 4 rfl) ?_
    refine lv_lload b.1 b.2.1 dX12_reckons_483 (lv_at hl 5 rfl) ?_
    refine lv_lload b.1 b.2.1 dX12_reckons_485 (lv_at hl 6 rfl) ?_
    obtain ⟨r15, hc14, hf⟩ := oB_s hf
    refine k_callS0 b zs zk hE (CX12_against l D aC zk hc14) mc_X12_against (in8 45 rfl rfl) mt_X12_against ini_RX12 ok_X12_against ⟨Nat.le_of_ble_eq_true rfl, Nat.le_of_ble_eq_true rfl⟩ rfl hl.1 rfl (k_room _ (by exact Nat.le_of_ble_eq_true rfl)) ⟨Nat.le_refl _, Nat.le_refl _⟩ dX12_reckons_487 (fun H locs hE => ?_)
    refine lv_if_ge (tgt := 500) b.1 b.2.1 dX12_reckons_490 (by decide) (fun c16 => ?_) (fun c16 => ?_)
    · have hf := oI_t c16 hf
      exact wfX12_reckons_500 b hlk hr zs zk  hf hE (lv_sub hl [0, 1, 2, 3, 4, 7, 8] rfl)
    · have hf := oI_f c16 hf
      refine lv_lload b.1 b.2.1 dX12_reckons_493 (lv_at hl 5 rfl) ?_
      refine lv_lstore_n (lv' := [(3, .long x15), (0, .ref (ad 116)), (1, .int x1), (2, .int x2), (5, .long x5), (15, .long x15), (17, .long x17), (19, .int x19), (20, .int x20)]) b.1 b.2.1 dX12_reckons_495 rfl hl (by decide) rfl (fun ls hl => ?_)
      have hl := lv_sub (l' := [(3, .long x15), (0, .ref (ad 116)), (1, .int x1), (2, .int x2), (17, .long x17), (19, .int x19), (20, .int x20)]) hl [0, 1, 2, 3, 6, 7, 8] rfl
      refine lv_lload b.1 b.2.1 dX12_reckons_496 (lv_at hl 4 rfl) ?_
      refine lv_lstore (lv' := [(5, .long x17), (3, .long x15), (0, .ref (ad 116)), (1, .int x1), (2, .int x2), (17, .long x17), (19, .int x19), (20, .int x20)]) b.1 b.2.1 dX12_reckons_498 hl (by decide) rfl (fun ls hl => ?_)
      have hl := lv_sub (l' := [(5, .long x17), (3, .long x15), (0, .ref (ad 116)), (1, .int x1), (2, .int x2), (19, .int x19), (20, .int x20)]) hl [0, 1, 2, 3, 4, 6, 7] rfl
      exact wfX12_reckons_500 b hlk hr zs zk  hf hE (lv_sub hl [2, 3, 4, 1, 0, 5, 6] rfl)
def fX12_reckons_446  (h : MS) (x1 : Int32) (x2 : Int32) (x3 : Int64) (x5 : Int64) (x11 : Int64) (x13 : Int64) (x15 : Int64) (x17 : Int64) (x19 : Int32) (x20 : Int32) : Option (MS) :=
  if (lg_cmp x13 0) ≤ 0 then (fX12_reckons_473  h x1 x2 x3 x5 x15 x17 x19 x20) else (oB (fX12_against x3 x5 x11 x13) (fun r19 => if r19 ≤ 0 then (fX12_reckons_473  h x1 x2 x3 x5 x15 x17 x19 x20) else (fX12_reckons_473  h x1 x2 x11 x13 x15 x17 x19 x20)))
set_option maxHeartbeats 4000000 in
theorem wfX12_reckons_446 {args : Array Value} (b : Bd p s m c cX12_reckons 28 RX12 D aC) (hlk : meth.locks = false) (hr : meth.sig.returnType = none) {Z : State → Prop} (zs : Z s) (zk : ZOK Z (Rg ad)) {hz : MS} {h : MS} {x1 : Int32} {x2 : Int32} {x3 : Int64} {x5 : Int64} {x11 : Int64} {x13 : Int64} {x15 : Int64} {x17 : Int64} {x19 : Int32} {x20 : Int32}  {H : Heap} {locs : List Loc} {ls : Array Slot} (hf : fX12_reckons_446 h x1 x2 x3 x5 x11 x13 x15 x17 x19 x20 = some hz) (hE : CE (EM D aC ad h) (Rg ad) s H locs) (hl : lv_has ls 28 [(0, .ref (ad 116)), (1, .int x1), (2, .int x2), (3, .long x3), (5, .long x5), (11, .long x11), (13, .long x13), (15, .long x15), (17, .long x17), (19, .int x19), (20, .int x20)]) : W p l e (RM 4 110 0 0) s m args below meth c H locs 0 0 (MQ below (PQ (EM D aC ad hz) (Rg ad) none) args s 0 0 (Rg ad)) (F0 m 446 ls []) := by
  unfold fX12_reckons_446 at hf
  refine lv_lload b.1 b.2.1 dX12_reckons_446 (lv_at hl 6 rfl) ?_
  refine lv_lconst (v := 0) b.1 b.2.1 dX12_reckons_448 rfl ?_
  refine W.lcmp b.1 b.2.1 dX12_reckons_449 ?_
  refine lv_if_le (tgt := 473) b.1 b.2.1 dX12_reckons_450 (by decide) (fun c17 => ?_) (fun c17 => ?_)
  · have hf := oI_t c17 hf
    exact wfX12_reckons_473 b hlk hr zs zk  hf hE (lv_sub hl [0, 1, 2, 3, 4, 7, 8, 9, 10] rfl)
  · have hf := oI_f c17 hf
    refine lv_lload_n b.1 b.2.1 dX12_reckons_453 rfl (lv_at hl 3 rfl) ?_
    refine lv_lload b.1 b.2.1 dX12_reckons_454 (lv_at hl 4 rfl) ?_
    refine lv_lload b.1 b.2.1 dX12_reckons_456 (lv_at hl 5 rfl) ?_
    refine lv_lload b.1 b.2.1 dX12_reckons_458 (lv_at hl 6 rfl) ?_
    obtain ⟨r19, hc18, hf⟩ := oB_s hf
    refine k_callS0 b zs zk hE (CX12_against l D aC zk hc18) mc_X12_against (in8 45 rfl rfl) mt_X12_against ini_RX12 ok_X12_against ⟨Nat.le_of_ble_eq_true rfl, Nat.le_of_ble_eq_true rfl⟩ rfl hl.1 rfl (k_room _ (by exact Nat.le_of_ble_eq_true rfl)) ⟨Nat.le_refl _, Nat.le_refl _⟩ dX12_reckons_460 (fun H locs hE => ?_)
    refine lv_if_le (tgt := 473) b.1 b.2.1 dX12_reckons_463 (by decide) (fun c20 => ?_) (fun c20 => ?_)
    · have hf := oI_t c20 hf
      exact wfX12_reckons_473 b hlk hr zs zk  hf hE (lv_sub hl [0, 1, 2, 3, 4, 7, 8, 9, 10] rfl)
    · have hf := oI_f c20 hf
      refine lv_lload b.1 b.2.1 dX12_reckons_466 (lv_at hl 5 rfl) ?_
      refine lv_lstore_n (lv' := [(3, .long x11), (0, .ref (ad 116)), (1, .int x1), (2, .int x2), (5, .long x5), (11, .long x11), (13, .long x13), (15, .long x15), (17, .long x17), (19, .int x19), (20, .int x20)]) b.1 b.2.1 dX12_reckons_468 rfl hl (by decide) rfl (fun ls hl => ?_)
      have hl := lv_sub (l' := [(3, .long x11), (0, .ref (ad 116)), (1, .int x1), (2, .int x2), (13, .long x13), (15, .long x15), (17, .long x17), (19, .int x19), (20, .int x20)]) hl [0, 1, 2, 3, 6, 7, 8, 9, 10] rfl
      refine lv_lload b.1 b.2.1 dX12_reckons_469 (lv_at hl 4 rfl) ?_
      refine lv_lstore (lv' := [(5, .long x13), (3, .long x11), (0, .ref (ad 116)), (1, .int x1), (2, .int x2), (13, .long x13), (15, .long x15), (17, .long x17), (19, .int x19), (20, .int x20)]) b.1 b.2.1 dX12_reckons_471 hl (by decide) rfl (fun ls hl => ?_)
      have hl := lv_sub (l' := [(5, .long x13), (3, .long x11), (0, .ref (ad 116)), (1, .int x1), (2, .int x2), (15, .long x15), (17, .long x17), (19, .int x19), (20, .int x20)]) hl [0, 1, 2, 3, 4, 6, 7, 8, 9] rfl
      exact wfX12_reckons_473 b hlk hr zs zk  hf hE (lv_sub hl [2, 3, 4, 1, 0, 5, 6, 7, 8] rfl)
def fX12_reckons_401 (k32 : MS → Int32 → Int32 → Int64 → Int64 → Int64 → Int64 → Int64 → Int64 → Int64 → Int64 → Int32 → Int32 → Int32 → Option (MS)) (h : MS) (x1 : Int32) (x2 : Int32) (x3 : Int64) (x5 : Int64) (x7 : Int64) (x9 : Int64) (x11 : Int64) (x13 : Int64) (x15 : Int64) (x17 : Int64) (x19 : Int32) (x20 : Int32) (x21 : Int32) : Option (MS) :=
  oL (x21 + 1) (fun y21 => k32 h x1 x2 x3 x5 x7 x9 x11 x13 x15 x17 x19 x20 y21)
set_option maxHeartbeats 4000000 in
theorem wfX12_reckons_401 {args : Array Value} (b : Bd p s m c cX12_reckons 28 RX12 D aC) (hlk : meth.locks = false) (hr : meth.sig.returnType = none) {Z : State → Prop} (zs : Z s) (zk : ZOK Z (Rg ad)) {hz : MS} {k32 : MS → Int32 → Int32 → Int64 → Int64 → Int64 → Int64 → Int64 → Int64 → Int64 → Int64 → Int32 → Int32 → Int32 → Option (MS)} (H32 : ∀ (h : MS) (x1 : Int32) (x2 : Int32) (x3 : Int64) (x5 : Int64) (x7 : Int64) (x9 : Int64) (x11 : Int64) (x13 : Int64) (x15 : Int64) (x17 : Int64) (x19 : Int32) (x20 : Int32) (x21 : Int32), ∀ (H : Heap) (locs : List Loc) (ls : Array Slot), k32 h x1 x2 x3 x5 x7 x9 x11 x13 x15 x17 x19 x20 x21 = some hz → CE (EM D aC ad h) (Rg ad) s H locs → lv_has ls 28 [(0, .ref (ad 116)), (1, .int x1), (2, .int x2), (3, .long x3), (5, .long x5), (7, .long x7), (9, .long x9), (11, .long x11), (13, .long x13), (15, .long x15), (17, .long x17), (19, .int x19), (20, .int x20), (21, .int x21)] → W p l e (RM 4 110 0 0) s m args below meth c H locs 0 0 (MQ below (PQ (EM D aC ad hz) (Rg ad) none) args s 0 0 (Rg ad)) (F0 m 32 ls [])) {h : MS} {x1 : Int32} {x2 : Int32} {x3 : Int64} {x5 : Int64} {x7 : Int64} {x9 : Int64} {x11 : Int64} {x13 : Int64} {x15 : Int64} {x17 : Int64} {x19 : Int32} {x20 : Int32} {x21 : Int32}  {H : Heap} {locs : List Loc} {ls : Array Slot} (hf : fX12_reckons_401 k32 h x1 x2 x3 x5 x7 x9 x11 x13 x15 x17 x19 x20 x21 = some hz) (hE : CE (EM D aC ad h) (Rg ad) s H locs) (hl : lv_has ls 28 [(0, .ref (ad 116)), (1, .int x1), (2, .int x2), (3, .long x3), (5, .long x5), (7, .long x7), (9, .long x9), (11, .long x11), (13, .long x13), (15, .long x15), (17, .long x17), (19, .int x19), (20, .int x20), (21, .int x21)]) : W p l e (RM 4 110 0 0) s m args below meth c H locs 0 0 (MQ below (PQ (EM D aC ad hz) (Rg ad) none) args s 0 0 (Rg ad)) (F0 m 401 ls []) := by
  unfold fX12_reckons_401 at hf
  obtain ⟨y21, ey21, hf⟩ := oL_s hf
  refine lv_iinc (v := y21) (lv' := [(21, .int y21), (0, .ref (ad 116)), (1, .int x1), (2, .int x2), (3, .long x3), (5, .long x5), (7, .long x7), (9, .long x9), (11, .long x11), (13, .long x13), (15, .long x15), (17, .long x17), (19, .int x19), (20, .int x20)]) b.1 b.2.1 dX12_reckons_401 hl (k := 13) rfl (by rw [ey21]; rfl) (by decide) rfl (fun ls hl => ?_)
  refine lv_goto (tgt := 32) b.1 b.2.1 dX12_reckons_404 (by decide) ?_
  exact H32 h x1 x2 x3 x5 x7 x9 x11 x13 x15 x17 x19 x20 y21 _ _ _ hf hE (lv_sub hl [1, 2, 3, 4, 5, 6, 7, 8, 9, 10, 11, 12, 13, 0] rfl)
def fX12_reckons_395 (k32 : MS → Int32 → Int32 → Int64 → Int64 → Int64 → Int64 → Int64 → Int64 → Int64 → Int64 → Int32 → Int32 → Int32 → Option (MS)) (k69 : MS → Int32 → Int32 → Int64 → Int64 → Int64 → Int64 → Int64 → Int64 → Int64 → Int64 → Int32 → Int32 → Int32 → Int32 → Option (MS)) (h : MS) (x1 : Int32) (x2 : Int32) (x3 : Int64) (x5 : Int64) (x7 : Int64) (x9 : Int64) (x11 : Int64) (x13 : Int64) (x15 : Int64) (x17 : Int64) (x19 : Int32) (x20 : Int32) (x21 : Int32) (x22 : Int32) : Option (MS) :=
  oL (x22 + 1) (fun y22 => k69 h x1 x2 x3 x5 x7 x9 x11 x13 x15 x17 x19 x20 x21 y22)
set_option maxHeartbeats 4000000 in
theorem wfX12_reckons_395 {args : Array Value} (b : Bd p s m c cX12_reckons 28 RX12 D aC) (hlk : meth.locks = false) (hr : meth.sig.returnType = none) {Z : State → Prop} (zs : Z s) (zk : ZOK Z (Rg ad)) {hz : MS} {k32 : MS → Int32 → Int32 → Int64 → Int64 → Int64 → Int64 → Int64 → Int64 → Int64 → Int64 → Int32 → Int32 → Int32 → Option (MS)} (H32 : ∀ (h : MS) (x1 : Int32) (x2 : Int32) (x3 : Int64) (x5 : Int64) (x7 : Int64) (x9 : Int64) (x11 : Int64) (x13 : Int64) (x15 : Int64) (x17 : Int64) (x19 : Int32) (x20 : Int32) (x21 : Int32), ∀ (H : Heap) (locs : List Loc) (ls : Array Slot), k32 h x1 x2 x3 x5 x7 x9 x11 x13 x15 x17 x19 x20 x21 = some hz → CE (EM D aC ad h) (Rg ad) s H locs → lv_has ls 28 [(0, .ref (ad 116)), (1, .int x1), (2, .int x2), (3, .long x3), (5, .long x5), (7, .long x7), (9, .long x9), (11, .long x11), (13, .long x13), (15, .long x15), (17, .long x17), (19, .int x19), (20, .int x20), (21, .int x21)] → W p l e (RM 4 110 0 0) s m args below meth c H locs 0 0 (MQ below (PQ (EM D aC ad hz) (Rg ad) none) args s 0 0 (Rg ad)) (F0 m 32 ls [])) {k69 : MS → Int32 → Int32 → Int64 → Int64 → Int64 → Int64 → Int64 → Int64 → Int64 → Int64 → Int32 → Int32 → Int32 → Int32 → Option (MS)} (H69 : ∀ (h : MS) (x1 : Int32) (x2 : Int32) (x3 : Int64) (x5 : Int64) (x7 : Int64) (x9 : Int64) (x11 : Int64) (x13 : Int64) (x15 : Int64) (x17 : Int64) (x19 : Int32) (x20 : Int32) (x21 : Int32) (x22 : Int32), ∀ (H : Heap) (locs : List Loc) (ls : Array Slot), k69 h x1 x2 x3 x5 x7 x9 x11 x13 x15 x17 x19 x20 x21 x22 = some hz → CE (EM D aC ad h) (Rg ad) s H locs → lv_has ls 28 [(0, .ref (ad 116)), (1, .int x1), (2, .int x2), (3, .long x3), (5, .long x5), (7, .long x7), (9, .long x9), (11, .long x11), (13, .long x13), (15, .long x15), (17, .long x17), (19, .int x19), (20, .int x20), (21, .int x21), (22, .int x22)] → W p l e (RM 4 110 0 0) s m args below meth c H locs 0 0 (MQ below (PQ (EM D aC ad hz) (Rg ad) none) args s 0 0 (Rg ad)) (F0 m 69 ls [])) {h : MS} {x1 : Int32} {x2 : Int32} {x3 : Int64} {x5 : Int64} {x7 : Int64} {x9 : Int64} {x11 : Int64} {x13 : Int64} {x15 : Int64} {x17 : Int64} {x19 : Int32} {x20 : Int32} {x21 : Int32} {x22 : Int32}  {H : Heap} {locs : List Loc} {ls : Array Slot} (hf : fX12_reckons_395 k32 k69 h x1 x2 x3 x5 x7 x9 x11 x13 x15 x17 x19 x20 x21 x22 = some hz) (hE : CE (EM D aC ad h) (Rg ad) s H locs) (hl : lv_has ls 28 [(0, .ref (ad 116)), (1, .int x1), (2, .int x2), (3, .long x3), (5, .long x5), (7, .long x7), (9, .long x9), (11, .long x11), (13, .long x13), (15, .long x15), (17, .long x17), (19, .int x19), (20, .int x20), (21, .int x21), (22, .int x22)]) : W p l e (RM 4 110 0 0) s m args below meth c H locs 0 0 (MQ below (PQ (EM D aC ad hz) (Rg ad) none) args s 0 0 (Rg ad)) (F0 m 395 ls []) := by
  unfold fX12_reckons_395 at hf
  obtain ⟨y22, ey22, hf⟩ := oL_s hf
  refine lv_iinc (v := y22) (lv' := [(22, .int y22), (0, .ref (ad 116)), (1, .int x1), (2, .int x2), (3, .long x3), (5, .long x5), (7, .long x7), (9, .long x9), (11, .long x11), (13, .long x13), (15, .long x15), (17, .long x17), (19, .int x19), (20, .int x20), (21, .int x21)]) b.1 b.2.1 dX12_reckons_395 hl (k := 14) rfl (by rw [ey22]; rfl) (by decide) rfl (fun ls hl => ?_)
  refine lv_goto (tgt := 69) b.1 b.2.1 dX12_reckons_398 (by decide) ?_
  exact H69 h x1 x2 x3 x5 x7 x9 x11 x13 x15 x17 x19 x20 x21 y22 _ _ _ hf hE (lv_sub hl [1, 2, 3, 4, 5, 6, 7, 8, 9, 10, 11, 12, 13, 14, 0] rfl)
def fX12_reckons_389 (k32 : MS → Int32 → Int32 → Int64 → Int64 → Int64 → Int64 → Int64 → Int64 → Int64 → Int64 → Int32 → Int32 → Int32 → Option (MS)) (k69 : MS → Int32 → Int32 → Int64 → Int64 → Int64 → Int64 → Int64 → Int64 → Int64 → Int64 → Int32 → Int32 → Int32 → Int32 → Option (MS)) (h : MS) (x1 : Int32) (x2 : Int32) (x3 : Int64) (x5 : Int64) (x7 : Int64) (x9 : Int64) (x11 : Int64) (x13 : Int64) (x15 : Int64) (x17 : Int64) (x19 : Int32) (x21 : Int32) (x22 : Int32) : Option (MS) :=
  oL (mI h 79) (fun y23 => fX12_reckons_395 k32 k69 h x1 x2 x3 x5 x7 x9 x11 x13 x15 x17 x19 y23 x21 x22)
set_option maxHeartbeats 4000000 in
theorem wfX12_reckons_389 {args : Array Value} (b : Bd p s m c cX12_reckons 28 RX12 D aC) (hlk : meth.locks = false) (hr : meth.sig.returnType = none) {Z : State → Prop} (zs : Z s) (zk : ZOK Z (Rg ad)) {hz : MS} {k32 : MS → Int32 → Int32 → Int64 → Int64 → Int64 → Int64 → Int64 → Int64 → Int64 → Int64 → Int32 → Int32 → Int32 → Option (MS)} (H32 : ∀ (h : MS) (x1 : Int32) (x2 : Int32) (x3 : Int64) (x5 : Int64) (x7 : Int64) (x9 : Int64) (x11 : Int64) (x13 : Int64) (x15 : Int64) (x17 : Int64) (x19 : Int32) (x20 : Int32) (x21 : Int32), ∀ (H : Heap) (locs : List Loc) (ls : Array Slot), k32 h x1 x2 x3 x5 x7 x9 x11 x13 x15 x17 x19 x20 x21 = some hz → CE (EM D aC ad h) (Rg ad) s H locs → lv_has ls 28 [(0, .ref (ad 116)), (1, .int x1), (2, .int x2), (3, .long x3), (5, .long x5), (7, .long x7), (9, .long x9), (11, .long x11), (13, .long x13), (15, .long x15), (17, .long x17), (19, .int x19), (20, .int x20), (21, .int x21)] → W p l e (RM 4 110 0 0) s m args below meth c H locs 0 0 (MQ below (PQ (EM D aC ad hz) (Rg ad) none) args s 0 0 (Rg ad)) (F0 m 32 ls [])) {k69 : MS → Int32 → Int32 → Int64 → Int64 → Int64 → Int64 → Int64 → Int64 → Int64 → Int64 → Int32 → Int32 → Int32 → Int32 → Option (MS)} (H69 : ∀ (h : MS) (x1 : Int32) (x2 : Int32) (x3 : Int64) (x5 : Int64) (x7 : Int64) (x9 : Int64) (x11 : Int64) (x13 : Int64) (x15 : Int64) (x17 : Int64) (x19 : Int32) (x20 : Int32) (x21 : Int32) (x22 : Int32), ∀ (H : Heap) (locs : List Loc) (ls : Array Slot), k69 h x1 x2 x3 x5 x7 x9 x11 x13 x15 x17 x19 x20 x21 x22 = some hz → CE (EM D aC ad h) (Rg ad) s H locs → lv_has ls 28 [(0, .ref (ad 116)), (1, .int x1), (2, .int x2), (3, .long x3), (5, .long x5), (7, .long x7), (9, .long x9), (11, .long x11), (13, .long x13), (15, .long x15), (17, .long x17), (19, .int x19), (20, .int x20), (21, .int x21), (22, .int x22)] → W p l e (RM 4 110 0 0) s m args below meth c H locs 0 0 (MQ below (PQ (EM D aC ad hz) (Rg ad) none) args s 0 0 (Rg ad)) (F0 m 69 ls [])) {h : MS} {x1 : Int32} {x2 : Int32} {x3 : Int64} {x5 : Int64} {x7 : Int64} {x9 : Int64} {x11 : Int64} {x13 : Int64} {x15 : Int64} {x17 : Int64} {x19 : Int32} {x21 : Int32} {x22 : Int32}  {H : Heap} {locs : List Loc} {ls : Array Slot} (hf : fX12_reckons_389 k32 k69 h x1 x2 x3 x5 x7 x9 x11 x13 x15 x17 x19 x21 x22 = some hz) (hE : CE (EM D aC ad h) (Rg ad) s H locs) (hl : lv_has ls 28 [(0, .ref (ad 116)), (1, .int x1), (2, .int x2), (3, .long x3), (5, .long x5), (7, .long x7), (9, .long x9), (11, .long x11), (13, .long x13), (15, .long x15), (17, .long x17), (19, .int x19), (21, .int x21), (22, .int x22)]) : W p l e (RM 4 110 0 0) s m args below meth c H locs 0 0 (MQ below (PQ (EM D aC ad hz) (Rg ad) none) args s 0 0 (Rg ad)) (F0 m 389 ls []) := by
  unfold fX12_reckons_389 at hf
  refine lv_aload_n b.1 b.2.1 dX12_reckons_389 rfl (lv_at hl 0 rfl) ?_
  refine gM_463 b hE dX12_reckons_390 ?_
  obtain ⟨y23, ey23, hf⟩ := oL_s hf
  refine k_nmI ey23 ?_
  refine lv_istore (lv' := [(20, .int y23), (0, .ref (ad 116)), (1, .int x1), (2, .int x2), (3, .long x3), (5, .long x5), (7, .long x7), (9, .long x9), (11, .long x11), (13, .long x13), (15, .long x15), (17, .long x17), (19, .int x19), (21, .int x21), (22, .int x22)]) b.1 b.2.1 dX12_reckons_393 hl (by decide) rfl (fun ls hl => ?_)
  exact wfX12_reckons_395 b hlk hr zs zk H32 H69 hf hE (lv_sub hl [1, 2, 3, 4, 5, 6, 7, 8, 9, 10, 11, 12, 0, 13, 14] rfl)
def fX12_reckons_328 (k32 : MS → Int32 → Int32 → Int64 → Int64 → Int64 → Int64 → Int64 → Int64 → Int64 → Int64 → Int32 → Int32 → Int32 → Option (MS)) (k69 : MS → Int32 → Int32 → Int64 → Int64 → Int64 → Int64 → Int64 → Int64 → Int64 → Int64 → Int32 → Int32 → Int32 → Int32 → Option (MS)) (h : MS) (x1 : Int32) (x2 : Int32) (x3 : Int64) (x5 : Int64) (x7 : Int64) (x9 : Int64) (x11 : Int64) (x15 : Int64) (x17 : Int64) (x19 : Int32) (x21 : Int32) (x22 : Int32) (s0 : Int64) : Option (MS) :=
  fX12_reckons_389 k32 k69 h x1 x2 x3 x5 x7 x9 x11 s0 x15 x17 x19 x21 x22
set_option maxHeartbeats 4000000 in
theorem wfX12_reckons_328 {args : Array Value} (b : Bd p s m c cX12_reckons 28 RX12 D aC) (hlk : meth.locks = false) (hr : meth.sig.returnType = none) {Z : State → Prop} (zs : Z s) (zk : ZOK Z (Rg ad)) {hz : MS} {k32 : MS → Int32 → Int32 → Int64 → Int64 → Int64 → Int64 → Int64 → Int64 → Int64 → Int64 → Int32 → Int32 → Int32 → Option (MS)} (H32 : ∀ (h : MS) (x1 : Int32) (x2 : Int32) (x3 : Int64) (x5 : Int64) (x7 : Int64) (x9 : Int64) (x11 : Int64) (x13 : Int64) (x15 : Int64) (x17 : Int64) (x19 : Int32) (x20 : Int32) (x21 : Int32), ∀ (H : Heap) (locs : List Loc) (ls : Array Slot), k32 h x1 x2 x3 x5 x7 x9 x11 x13 x15 x17 x19 x20 x21 = some hz → CE (EM D aC ad h) (Rg ad) s H locs → lv_has ls 28 [(0, .ref (ad 116)), (1, .int x1), (2, .int x2), (3, .long x3), (5, .long x5), (7, .long x7), (9, .long x9), (11, .long x11), (13, .long x13), (15, .long x15), (17, .long x17), (19, .int x19), (20, .int x20), (21, .int x21)] → W p l e (RM 4 110 0 0) s m args below meth c H locs 0 0 (MQ below (PQ (EM D aC ad hz) (Rg ad) none) args s 0 0 (Rg ad)) (F0 m 32 ls [])) {k69 : MS → Int32 → Int32 → Int64 → Int64 → Int64 → Int64 → Int64 → Int64 → Int64 → Int64 → Int32 → Int32 → Int32 → Int32 → Option (MS)} (H69 : ∀ (h : MS) (x1 : Int32) (x2 : Int32) (x3 : Int64) (x5 : Int64) (x7 : Int64) (x9 : Int64) (x11 : Int64) (x13 : Int64) (x15 : Int64) (x17 : Int64) (x19 : Int32) (x20 : Int32) (x21 : Int32) (x22 : Int32), ∀ (H : Heap) (locs : List Loc) (ls : Array Slot), k69 h x1 x2 x3 x5 x7 x9 x11 x13 x15 x17 x19 x20 x21 x22 = some hz → CE (EM D aC ad h) (Rg ad) s H locs → lv_has ls 28 [(0, .ref (ad 116)), (1, .int x1), (2, .int x2), (3, .long x3), (5, .long x5), (7, .long x7), (9, .long x9), (11, .long x11), (13, .long x13), (15, .long x15), (17, .long x17), (19, .int x19), (20, .int x20), (21, .int x21), (22, .int x22)] → W p l e (RM 4 110 0 0) s m args below meth c H locs 0 0 (MQ below (PQ (EM D aC ad hz) (Rg ad) none) args s 0 0 (Rg ad)) (F0 m 69 ls [])) {h : MS} {x1 : Int32} {x2 : Int32} {x3 : Int64} {x5 : Int64} {x7 : Int64} {x9 : Int64} {x11 : Int64} {x15 : Int64} {x17 : Int64} {x19 : Int32} {x21 : Int32} {x22 : Int32} {s0 : Int64}  {H : Heap} {locs : List Loc} {ls : Array Slot} (hf : fX12_reckons_328 k32 k69 h x1 x2 x3 x5 x7 x9 x11 x15 x17 x19 x21 x22 s0 = some hz) (hE : CE (EM D aC ad h) (Rg ad) s H locs) (hl : lv_has ls 28 [(0, .ref (ad 116)), (1, .int x1), (2, .int x2), (3, .long x3), (5, .long x5), (7, .long x7), (9, .long x9), (11, .long x11), (15, .long x15), (17, .long x17), (19, .int x19), (21, .int x21), (22, .int x22)]) : W p l e (RM 4 110 0 0) s m args below meth c H locs 0 0 (MQ below (PQ (EM D aC ad hz) (Rg ad) none) args s 0 0 (Rg ad)) (F0 m 328 ls [.long s0]) := by
  unfold fX12_reckons_328 at hf
  refine lv_lstore (lv' := [(13, .long s0), (0, .ref (ad 116)), (1, .int x1), (2, .int x2), (3, .long x3), (5, .long x5), (7, .long x7), (9, .long x9), (11, .long x11), (15, .long x15), (17, .long x17), (19, .int x19), (21, .int x21), (22, .int x22)]) b.1 b.2.1 dX12_reckons_328 hl (by decide) rfl (fun ls hl => ?_)
  refine lv_goto (tgt := 389) b.1 b.2.1 dX12_reckons_330 (by decide) ?_
  exact wfX12_reckons_389 b hlk hr zs zk H32 H69 hf hE (lv_sub hl [1, 2, 3, 4, 5, 6, 7, 8, 0, 9, 10, 11, 12, 13] rfl)
def fX12_reckons_314 (k32 : MS → Int32 → Int32 → Int64 → Int64 → Int64 → Int64 → Int64 → Int64 → Int64 → Int64 → Int32 → Int32 → Int32 → Option (MS)) (k69 : MS → Int32 → Int32 → Int64 → Int64 → Int64 → Int64 → Int64 → Int64 → Int64 → Int64 → Int32 → Int32 → Int32 → Int32 → Option (MS)) (h : MS) (x1 : Int32) (x2 : Int32) (x3 : Int64) (x5 : Int64) (x7 : Int64) (x9 : Int64) (x13 : Int64) (x15 : Int64) (x17 : Int64) (x19 : Int32) (x21 : Int32) (x22 : Int32) (x25 : Int64) (x27 : Int32) (s0 : Int64) : Option (MS) :=
  if x27 = 0 then (fX12_reckons_328 k32 k69 h x1 x2 x3 x5 x7 x9 s0 x15 x17 x19 x21 x22 x13) else (fX12_reckons_328 k32 k69 h x1 x2 x3 x5 x7 x9 s0 x15 x17 x19 x21 x22 x25)
set_option maxHeartbeats 4000000 in
theorem wfX12_reckons_314 {args : Array Value} (b : Bd p s m c cX12_reckons 28 RX12 D aC) (hlk : meth.locks = false) (hr : meth.sig.returnType = none) {Z : State → Prop} (zs : Z s) (zk : ZOK Z (Rg ad)) {hz : MS} {k32 : MS → Int32 → Int32 → Int64 → Int64 → Int64 → Int64 → Int64 → Int64 → Int64 → Int64 → Int32 → Int32 → Int32 → Option (MS)} (H32 : ∀ (h : MS) (x1 : Int32) (x2 : Int32) (x3 : Int64) (x5 : Int64) (x7 : Int64) (x9 : Int64) (x11 : Int64) (x13 : Int64) (x15 : Int64) (x17 : Int64) (x19 : Int32) (x20 : Int32) (x21 : Int32), ∀ (H : Heap) (locs : List Loc) (ls : Array Slot), k32 h x1 x2 x3 x5 x7 x9 x11 x13 x15 x17 x19 x20 x21 = some hz → CE (EM D aC ad h) (Rg ad) s H locs → lv_has ls 28 [(0, .ref (ad 116)), (1, .int x1), (2, .int x2), (3, .long x3), (5, .long x5), (7, .long x7), (9, .long x9), (11, .long x11), (13, .long x13), (15, .long x15), (17, .long x17), (19, .int x19), (20, .int x20), (21, .int x21)] → W p l e (RM 4 110 0 0) s m args below meth c H locs 0 0 (MQ below (PQ (EM D aC ad hz) (Rg ad) none) args s 0 0 (Rg ad)) (F0 m 32 ls [])) {k69 : MS → Int32 → Int32 → Int64 → Int64 → Int64 → Int64 → Int64 → Int64 → Int64 → Int64 → Int32 → Int32 → Int32 → Int32 → Option (MS)} (H69 : ∀ (h : MS) (x1 : Int32) (x2 : Int32) (x3 : Int64) (x5 : Int64) (x7 : Int64) (x9 : Int64) (x11 : Int64) (x13 : Int64) (x15 : Int64) (x17 : Int64) (x19 : Int32) (x20 : Int32) (x21 : Int32) (x22 : Int32), ∀ (H : Heap) (locs : List Loc) (ls : Array Slot), k69 h x1 x2 x3 x5 x7 x9 x11 x13 x15 x17 x19 x20 x21 x22 = some hz → CE (EM D aC ad h) (Rg ad) s H locs → lv_has ls 28 [(0, .ref (ad 116)), (1, .int x1), (2, .int x2), (3, .long x3), (5, .long x5), (7, .long x7), (9, .long x9), (11, .long x11), (13, .long x13), (15, .long x15), (17, .long x17), (19, .int x19), (20, .int x20), (21, .int x21), (22, .int x22)] → W p l e (RM 4 110 0 0) s m args below meth c H locs 0 0 (MQ below (PQ (EM D aC ad hz) (Rg ad) none) args s 0 0 (Rg ad)) (F0 m 69 ls [])) {h : MS} {x1 : Int32} {x2 : Int32} {x3 : Int64} {x5 : Int64} {x7 : Int64} {x9 : Int64} {x13 : Int64} {x15 : Int64} {x17 : Int64} {x19 : Int32} {x21 : Int32} {x22 : Int32} {x25 : Int64} {x27 : Int32} {s0 : Int64}  {H : Heap} {locs : List Loc} {ls : Array Slot} (hf : fX12_reckons_314 k32 k69 h x1 x2 x3 x5 x7 x9 x13 x15 x17 x19 x21 x22 x25 x27 s0 = some hz) (hE : CE (EM D aC ad h) (Rg ad) s H locs) (hl : lv_has ls 28 [(0, .ref (ad 116)), (1, .int x1), (2, .int x2), (3, .long x3), (5, .long x5), (7, .long x7), (9, .long x9), (13, .long x13), (15, .long x15), (17, .long x17), (19, .int x19), (21, .int x21), (22, .int x22), (25, .long x25), (27, .int x27)]) : W p l e (RM 4 110 0 0) s m args below meth c H locs 0 0 (MQ below (PQ (EM D aC ad hz) (Rg ad) none) args s 0 0 (Rg ad)) (F0 m 314 ls [.long s0]) := by
  unfold fX12_reckons_314 at hf
  refine lv_lstore (lv' := [(11, .long s0), (0, .ref (ad 116)), (1, .int x1), (2, .int x2), (3, .long x3), (5, .long x5), (7, .long x7), (9, .long x9), (13, .long x13), (15, .long x15), (17, .long x17), (19, .int x19), (21, .int x21), (22, .int x22), (25, .long x25), (27, .int x27)]) b.1 b.2.1 dX12_reckons_314 hl (by decide) rfl (fun ls hl => ?_)
  refine lv_iload b.1 b.2.1 dX12_reckons_316 (lv_at hl 15 rfl) ?_
  refine lv_if_eq (tgt := 326) b.1 b.2.1 dX12_reckons_318 (by decide) (fun c24 => ?_) (fun c24 => ?_)
  · have hf := oI_t c24 hf
    refine lv_lload b.1 b.2.1 dX12_reckons_326 (lv_at hl 8 rfl) ?_
    exact wfX12_reckons_328 b hlk hr zs zk H32 H69 hf hE (lv_sub hl [1, 2, 3, 4, 5, 6, 7, 0, 9, 10, 11, 12, 13] rfl)
  · have hf := oI_f c24 hf
    refine lv_lload b.1 b.2.1 dX12_reckons_321 (lv_at hl 14 rfl) ?_
    refine lv_goto (tgt := 328) b.1 b.2.1 dX12_reckons_323 (by decide) ?_
    exact wfX12_reckons_328 b hlk hr zs zk H32 H69 hf hE (lv_sub hl [1, 2, 3, 4, 5, 6, 7, 0, 9, 10, 11, 12, 13] rfl)
def fX12_reckons_300 (k32 : MS → Int32 → Int32 → Int64 → Int64 → Int64 → Int64 → Int64 → Int64 → Int64 → Int64 → Int32 → Int32 → Int32 → Option (MS)) (k69 : MS → Int32 → Int32 → Int64 → Int64 → Int64 → Int64 → Int64 → Int64 → Int64 → Int64 → Int32 → Int32 → Int32 → Int32 → Option (MS)) (h : MS) (x1 : Int32) (x2 : Int32) (x3 : Int64) (x5 : Int64) (x7 : Int64) (x9 : Int64) (x11 : Int64) (x13 : Int64) (x15 : Int64) (x17 : Int64) (x19 : Int32) (x21 : Int32) (x22 : Int32) (x23 : Int64) (x25 : Int64) (s0 : Int32) : Option (MS) :=
  if s0 = 0 then (fX12_reckons_314 k32 k69 h x1 x2 x3 x5 x7 x9 x13 x15 x17 x19 x21 x22 x25 s0 x11) else (fX12_reckons_314 k32 k69 h x1 x2 x3 x5 x7 x9 x13 x15 x17 x19 x21 x22 x25 s0 x23)
set_option maxHeartbeats 4000000 in
theorem wfX12_reckons_300 {args : Array Value} (b : Bd p s m c cX12_reckons 28 RX12 D aC) (hlk : meth.locks = false) (hr : meth.sig.returnType = none) {Z : State → Prop} (zs : Z s) (zk : ZOK Z (Rg ad)) {hz : MS} {k32 : MS → Int32 → Int32 → Int64 → Int64 → Int64 → Int64 → Int64 → Int64 → Int64 → Int64 → Int32 → Int32 → Int32 → Option (MS)} (H32 : ∀ (h : MS) (x1 : Int32) (x2 : Int32) (x3 : Int64) (x5 : Int64) (x7 : Int64) (x9 : Int64) (x11 : Int64) (x13 : Int64) (x15 : Int64) (x17 : Int64) (x19 : Int32) (x20 : Int32) (x21 : Int32), ∀ (H : Heap) (locs : List Loc) (ls : Array Slot), k32 h x1 x2 x3 x5 x7 x9 x11 x13 x15 x17 x19 x20 x21 = some hz → CE (EM D aC ad h) (Rg ad) s H locs → lv_has ls 28 [(0, .ref (ad 116)), (1, .int x1), (2, .int x2), (3, .long x3), (5, .long x5), (7, .long x7), (9, .long x9), (11, .long x11), (13, .long x13), (15, .long x15), (17, .long x17), (19, .int x19), (20, .int x20), (21, .int x21)] → W p l e (RM 4 110 0 0) s m args below meth c H locs 0 0 (MQ below (PQ (EM D aC ad hz) (Rg ad) none) args s 0 0 (Rg ad)) (F0 m 32 ls [])) {k69 : MS → Int32 → Int32 → Int64 → Int64 → Int64 → Int64 → Int64 → Int64 → Int64 → Int64 → Int32 → Int32 → Int32 → Int32 → Option (MS)} (H69 : ∀ (h : MS) (x1 : Int32) (x2 : Int32) (x3 : Int64) (x5 : Int64) (x7 : Int64) (x9 : Int64) (x11 : Int64) (x13 : Int64) (x15 : Int64) (x17 : Int64) (x19 : Int32) (x20 : Int32) (x21 : Int32) (x22 : Int32), ∀ (H : Heap) (locs : List Loc) (ls : Array Slot), k69 h x1 x2 x3 x5 x7 x9 x11 x13 x15 x17 x19 x20 x21 x22 = some hz → CE (EM D aC ad h) (Rg ad) s H locs → lv_has ls 28 [(0, .ref (ad 116)), (1, .int x1), (2, .int x2), (3, .long x3), (5, .long x5), (7, .long x7), (9, .long x9), (11, .long x11), (13, .long x13), (15, .long x15), (17, .long x17), (19, .int x19), (20, .int x20), (21, .int x21), (22, .int x22)] → W p l e (RM 4 110 0 0) s m args below meth c H locs 0 0 (MQ below (PQ (EM D aC ad hz) (Rg ad) none) args s 0 0 (Rg ad)) (F0 m 69 ls [])) {h : MS} {x1 : Int32} {x2 : Int32} {x3 : Int64} {x5 : Int64} {x7 : Int64} {x9 : Int64} {x11 : Int64} {x13 : Int64} {x15 : Int64} {x17 : Int64} {x19 : Int32} {x21 : Int32} {x22 : Int32} {x23 : Int64} {x25 : Int64} {s0 : Int32}  {H : Heap} {locs : List Loc} {ls : Array Slot} (hf : fX12_reckons_300 k32 k69 h x1 x2 x3 x5 x7 x9 x11 x13 x15 x17 x19 x21 x22 x23 x25 s0 = some hz) (hE : CE (EM D aC ad h) (Rg ad) s H locs) (hl : lv_has ls 28 [(0, .ref (ad 116)), (1, .int x1), (2, .int x2), (3, .long x3), (5, .long x5), (7, .long x7), (9, .long x9), (11, .long x11), (13, .long x13), (15, .long x15), (17, .long x17), (19, .int x19), (21, .int x21), (22, .int x22), (23, .long x23), (25, .long x25)]) : W p l e (RM 4 110 0 0) s m args below meth c H locs 0 0 (MQ below (PQ (EM D aC ad hz) (Rg ad) none) args s 0 0 (Rg ad)) (F0 m 300 ls [.int s0]) := by
  unfold fX12_reckons_300 at hf
  refine lv_istore (lv' := [(27, .int s0), (0, .ref (ad 116)), (1, .int x1), (2, .int x2), (3, .long x3), (5, .long x5), (7, .long x7), (9, .long x9), (11, .long x11), (13, .long x13), (15, .long x15), (17, .long x17), (19, .int x19), (21, .int x21), (22, .int x22), (23, .long x23), (25, .long x25)]) b.1 b.2.1 dX12_reckons_300 hl (by decide) rfl (fun ls hl => ?_)
  refine lv_iload b.1 b.2.1 dX12_reckons_302 (lv_at hl 0 rfl) ?_
  refine lv_if_eq (tgt := 312) b.1 b.2.1 dX12_reckons_304 (by decide) (fun c25 => ?_) (fun c25 => ?_)
  · have hf := oI_t c25 hf
    refine lv_lload b.1 b.2.1 dX12_reckons_312 (lv_at hl 8 rfl) ?_
    exact wfX12_reckons_314 b hlk hr zs zk H32 H69 hf hE (lv_sub hl [1, 2, 3, 4, 5, 6, 7, 9, 10, 11, 12, 13, 14, 16, 0] rfl)
  · have hf := oI_f c25 hf
    refine lv_lload b.1 b.2.1 dX12_reckons_307 (lv_at hl 15 rfl) ?_
    refine lv_goto (tgt := 314) b.1 b.2.1 dX12_reckons_309 (by decide) ?_
    exact wfX12_reckons_314 b hlk hr zs zk H32 H69 hf hE (lv_sub hl [1, 2, 3, 4, 5, 6, 7, 9, 10, 11, 12, 13, 14, 16, 0] rfl)
def fX12_reckons_387 (k32 : MS → Int32 → Int32 → Int64 → Int64 → Int64 → Int64 → Int64 → Int64 → Int64 → Int64 → Int32 → Int32 → Int32 → Option (MS)) (k69 : MS → Int32 → Int32 → Int64 → Int64 → Int64 → Int64 → Int64 → Int64 → Int64 → Int64 → Int32 → Int32 → Int32 → Int32 → Option (MS)) (h : MS) (x1 : Int32) (x2 : Int32) (x3 : Int64) (x5 : Int64) (x7 : Int64) (x9 : Int64) (x11 : Int64) (x13 : Int64) (x15 : Int64) (x19 : Int32) (x21 : Int32) (x22 : Int32) (s0 : Int64) : Option (MS) :=
  fX12_reckons_389 k32 k69 h x1 x2 x3 x5 x7 x9 x11 x13 x15 s0 x19 x21 x22
set_option maxHeartbeats 4000000 in
theorem wfX12_reckons_387 {args : Array Value} (b : Bd p s m c cX12_reckons 28 RX12 D aC) (hlk : meth.locks = false) (hr : meth.sig.returnType = none) {Z : State → Prop} (zs : Z s) (zk : ZOK Z (Rg ad)) {hz : MS} {k32 : MS → Int32 → Int32 → Int64 → Int64 → Int64 → Int64 → Int64 → Int64 → Int64 → Int64 → Int32 → Int32 → Int32 → Option (MS)} (H32 : ∀ (h : MS) (x1 : Int32) (x2 : Int32) (x3 : Int64) (x5 : Int64) (x7 : Int64) (x9 : Int64) (x11 : Int64) (x13 : Int64) (x15 : Int64) (x17 : Int64) (x19 : Int32) (x20 : Int32) (x21 : Int32), ∀ (H : Heap) (locs : List Loc) (ls : Array Slot), k32 h x1 x2 x3 x5 x7 x9 x11 x13 x15 x17 x19 x20 x21 = some hz → CE (EM D aC ad h) (Rg ad) s H locs → lv_has ls 28 [(0, .ref (ad 116)), (1, .int x1), (2, .int x2), (3, .long x3), (5, .long x5), (7, .long x7), (9, .long x9), (11, .long x11), (13, .long x13), (15, .long x15), (17, .long x17), (19, .int x19), (20, .int x20), (21, .int x21)] → W p l e (RM 4 110 0 0) s m args below meth c H locs 0 0 (MQ below (PQ (EM D aC ad hz) (Rg ad) none) args s 0 0 (Rg ad)) (F0 m 32 ls [])) {k69 : MS → Int32 → Int32 → Int64 → Int64 → Int64 → Int64 → Int64 → Int64 → Int64 → Int64 → Int32 → Int32 → Int32 → Int32 → Option (MS)} (H69 : ∀ (h : MS) (x1 : Int32) (x2 : Int32) (x3 : Int64) (x5 : Int64) (x7 : Int64) (x9 : Int64) (x11 : Int64) (x13 : Int64) (x15 : Int64) (x17 : Int64) (x19 : Int32) (x20 : Int32) (x21 : Int32) (x22 : Int32), ∀ (H : Heap) (locs : List Loc) (ls : Array Slot), k69 h x1 x2 x3 x5 x7 x9 x11 x13 x15 x17 x19 x20 x21 x22 = some hz → CE (EM D aC ad h) (Rg ad) s H locs → lv_has ls 28 [(0, .ref (ad 116)), (1, .int x1), (2, .int x2), (3, .long x3), (5, .long x5), (7, .long x7), (9, .long x9), (11, .long x11), (13, .long x13), (15, .long x15), (17, .long x17), (19, .int x19), (20, .int x20), (21, .int x21), (22, .int x22)] → W p l e (RM 4 110 0 0) s m args below meth c H locs 0 0 (MQ below (PQ (EM D aC ad hz) (Rg ad) none) args s 0 0 (Rg ad)) (F0 m 69 ls [])) {h : MS} {x1 : Int32} {x2 : Int32} {x3 : Int64} {x5 : Int64} {x7 : Int64} {x9 : Int64} {x11 : Int64} {x13 : Int64} {x15 : Int64} {x19 : Int32} {x21 : Int32} {x22 : Int32} {s0 : Int64}  {H : Heap} {locs : List Loc} {ls : Array Slot} (hf : fX12_reckons_387 k32 k69 h x1 x2 x3 x5 x7 x9 x11 x13 x15 x19 x21 x22 s0 = some hz) (hE : CE (EM D aC ad h) (Rg ad) s H locs) (hl : lv_has ls 28 [(0, .ref (ad 116)), (1, .int x1), (2, .int x2), (3, .long x3), (5, .long x5), (7, .long x7), (9, .long x9), (11, .long x11), (13, .long x13), (15, .long x15), (19, .int x19), (21, .int x21), (22, .int x22)]) : W p l e (RM 4 110 0 0) s m args below meth c H locs 0 0 (MQ below (PQ (EM D aC ad hz) (Rg ad) none) args s 0 0 (Rg ad)) (F0 m 387 ls [.long s0]) := by
  unfold fX12_reckons_387 at hf
  refine lv_lstore (lv' := [(17, .long s0), (0, .ref (ad 116)), (1, .int x1), (2, .int x2), (3, .long x3), (5, .long x5), (7, .long x7), (9, .long x9), (11, .long x11), (13, .long x13), (15, .long x15), (19, .int x19), (21, .int x21), (22, .int x22)]) b.1 b.2.1 dX12_reckons_387 hl (by decide) rfl (fun ls hl => ?_)
  exact wfX12_reckons_389 b hlk hr zs zk H32 H69 hf hE (lv_sub hl [1, 2, 3, 4, 5, 6, 7, 8, 9, 10, 0, 11, 12, 13] rfl)
def fX12_reckons_373 (k32 : MS → Int32 → Int32 → Int64 → Int64 → Int64 → Int64 → Int64 → Int64 → Int64 → Int64 → Int32 → Int32 → Int32 → Option (MS)) (k69 : MS → Int32 → Int32 → Int64 → Int64 → Int64 → Int64 → Int64 → Int64 → Int64 → Int64 → Int32 → Int32 → Int32 → Int32 → Option (MS)) (h : MS) (x1 : Int32) (x2 : Int32) (x3 : Int64) (x5 : Int64) (x7 : Int64) (x9 : Int64) (x11 : Int64) (x13 : Int64) (x17 : Int64) (x19 : Int32) (x21 : Int32) (x22 : Int32) (x25 : Int64) (x27 : Int32) (s0 : Int64) : Option (MS) :=
  if x27 = 0 then (fX12_reckons_387 k32 k69 h x1 x2 x3 x5 x7 x9 x11 x13 s0 x19 x21 x22 x17) else (fX12_reckons_387 k32 k69 h x1 x2 x3 x5 x7 x9 x11 x13 s0 x19 x21 x22 x25)
set_option maxHeartbeats 4000000 in
theorem wfX12_reckons_373 {args : Array Value} (b : Bd p s m c cX12_reckons 28 RX12 D aC) (hlk : meth.locks = false) (hr : meth.sig.returnType = none) {Z : State → Prop} (zs : Z s) (zk : ZOK Z (Rg ad)) {hz : MS} {k32 : MS → Int32 → Int32 → Int64 → Int64 → Int64 → Int64 → Int64 → Int64 → Int64 → Int64 → Int32 → Int32 → Int32 → Option (MS)} (H32 : ∀ (h : MS) (x1 : Int32) (x2 : Int32) (x3 : Int64) (x5 : Int64) (x7 : Int64) (x9 : Int64) (x11 : Int64) (x13 : Int64) (x15 : Int64) (x17 : Int64) (x19 : Int32) (x20 : Int32) (x21 : Int32), ∀ (H : Heap) (locs : List Loc) (ls : Array Slot), k32 h x1 x2 x3 x5 x7 x9 x11 x13 x15 x17 x19 x20 x21 = some hz → CE (EM D aC ad h) (Rg ad) s H locs → lv_has ls 28 [(0, .ref (ad 116)), (1, .int x1), (2, .int x2), (3, .long x3), (5, .long x5), (7, .long x7), (9, .long x9), (11, .long x11), (13, .long x13), (15, .long x15), (17, .long x17), (19, .int x19), (20, .int x20), (21, .int x21)] → W p l e (RM 4 110 0 0) s m args below meth c H locs 0 0 (MQ below (PQ (EM D aC ad hz) (Rg ad) none) args s 0 0 (Rg ad)) (F0 m 32 ls [])) {k69 : MS → Int32 → Int32 → Int64 → Int64 → Int64 → Int64 → Int64 → Int64 → Int64 → Int64 → Int32 → Int32 → Int32 → Int32 → Option (MS)} (H69 : ∀ (h : MS) (x1 : Int32) (x2 : Int32) (x3 : Int64) (x5 : Int64) (x7 : Int64) (x9 : Int64) (x11 : Int64) (x13 : Int64) (x15 : Int64) (x17 : Int64) (x19 : Int32) (x20 : Int32) (x21 : Int32) (x22 : Int32), ∀ (H : Heap) (locs : List Loc) (ls : Array Slot), k69 h x1 x2 x3 x5 x7 x9 x11 x13 x15 x17 x19 x20 x21 x22 = some hz → CE (EM D aC ad h) (Rg ad) s H locs → lv_has ls 28 [(0, .ref (ad 116)), (1, .int x1), (2, .int x2), (3, .long x3), (5, .long x5), (7, .long x7), (9, .long x9), (11, .long x11), (13, .long x13), (15, .long x15), (17, .long x17), (19, .int x19), (20, .int x20), (21, .int x21), (22, .int x22)] → W p l e (RM 4 110 0 0) s m args below meth c H locs 0 0 (MQ below (PQ (EM D aC ad hz) (Rg ad) none) args s 0 0 (Rg ad)) (F0 m 69 ls [])) {h : MS} {x1 : Int32} {x2 : Int32} {x3 : Int64} {x5 : Int64} {x7 : Int64} {x9 : Int64} {x11 : Int64} {x13 : Int64} {x17 : Int64} {x19 : Int32} {x21 : Int32} {x22 : Int32} {x25 : Int64} {x27 : Int32} {s0 : Int64}  {H : Heap} {locs : List Loc} {ls : Array Slot} (hf : fX12_reckons_373 k32 k69 h x1 x2 x3 x5 x7 x9 x11 x13 x17 x19 x21 x22 x25 x27 s0 = some hz) (hE : CE (EM D aC ad h) (Rg ad) s H locs) (hl : lv_has ls 28 [(0, .ref (ad 116)), (1, .int x1), (2, .int x2), (3, .long x3), (5, .long x5), (7, .long x7), (9, .long x9), (11, .long x11), (13, .long x13), (17, .long x17), (19, .int x19), (21, .int x21), (22, .int x22), (25, .long x25), (27, .int x27)]) : W p l e (RM 4 110 0 0) s m args below meth c H locs 0 0 (MQ below (PQ (EM D aC ad hz) (Rg ad) none) args s 0 0 (Rg ad)) (F0 m 373 ls [.long s0]) := by
  unfold fX12_reckons_373 at hf
  refine lv_lstore (lv' := [(15, .long s0), (0, .ref (ad 116)), (1, .int x1), (2, .int x2), (3, .long x3), (5, .long x5), (7, .long x7), (9, .long x9), (11, .long x11), (13, .long x13), (17, .long x17), (19, .int x19), (21, .int x21), (22, .int x22), (25, .long x25), (27, .int x27)]) b.1 b.2.1 dX12_reckons_373 hl (by decide) rfl (fun ls hl => ?_)
  refine lv_iload b.1 b.2.1 dX12_reckons_375 (lv_at hl 15 rfl) ?_
  refine lv_if_eq (tgt := 385) b.1 b.2.1 dX12_reckons_377 (by decide) (fun c26 => ?_) (fun c26 => ?_)
  · have hf := oI_t c26 hf
    refine lv_lload b.1 b.2.1 dX12_reckons_385 (lv_at hl 10 rfl) ?_
    exact wfX12_reckons_387 b hlk hr zs zk H32 H69 hf hE (lv_sub hl [1, 2, 3, 4, 5, 6, 7, 8, 9, 0, 11, 12, 13] rfl)
  · have hf := oI_f c26 hf
    refine lv_lload b.1 b.2.1 dX12_reckons_380 (lv_at hl 14 rfl) ?_
    refine lv_goto (tgt := 387) b.1 b.2.1 dX12_reckons_382 (by decide) ?_
    exact wfX12_reckons_387 b hlk hr zs zk H32 H69 hf hE (lv_sub hl [1, 2, 3, 4, 5, 6, 7, 8, 9, 0, 11, 12, 13] rfl)
def fX12_reckons_359 (k32 : MS → Int32 → Int32 → Int64 → Int64 → Int64 → Int64 → Int64 → Int64 → Int64 → Int64 → Int32 → Int32 → Int32 → Option (MS)) (k69 : MS → Int32 → Int32 → Int64 → Int64 → Int64 → Int64 → Int64 → Int64 → Int64 → Int64 → Int32 → Int32 → Int32 → Int32 → Option (MS)) (h : MS) (x1 : Int32) (x2 : Int32) (x3 : Int64) (x5 : Int64) (x7 : Int64) (x9 : Int64) (x11 : Int64) (x13 : Int64) (x15 : Int64) (x17 : Int64) (x19 : Int32) (x21 : Int32) (x22 : Int32) (x23 : Int64) (x25 : Int64) (s0 : Int32) : Option (MS) :=
  if s0 = 0 then (fX12_reckons_373 k32 k69 h x1 x2 x3 x5 x7 x9 x11 x13 x17 x19 x21 x22 x25 s0 x15) else (fX12_reckons_373 k32 k69 h x1 x2 x3 x5 x7 x9 x11 x13 x17 x19 x21 x22 x25 s0 x23)
set_option maxHeartbeats 4000000 in
theorem wfX12_reckons_359 {args : Array Value} (b : Bd p s m c cX12_reckons 28 RX12 D aC) (hlk : meth.locks = false) (hr : meth.sig.returnType = none) {Z : State → Prop} (zs : Z s) (zk : ZOK Z (Rg ad)) {hz : MS} {k32 : MS → Int32 → Int32 → Int64 → Int64 → Int64 → Int64 → Int64 → Int64 → Int64 → Int64 → Int32 → Int32 → Int32 → Option (MS)} (H32 : ∀ (h : MS) (x1 : Int32) (x2 : Int32) (x3 : Int64) (x5 : Int64) (x7 : Int64) (x9 : Int64) (x11 : Int64) (x13 : Int64) (x15 : Int64) (x17 : Int64) (x19 : Int32) (x20 : Int32) (x21 : Int32), ∀ (H : Heap) (locs : List Loc) (ls : Array Slot), k32 h x1 x2 x3 x5 x7 x9 x11 x13 x15 x17 x19 x20 x21 = some hz → CE (EM D aC ad h) (Rg ad) s H locs → lv_has ls 28 [(0, .ref (ad 116)), (1, .int x1), (2, .int x2), (3, .long x3), (5, .long x5), (7, .long x7), (9, .long x9), (11, .long x11), (13, .long x13), (15, .long x15), (17, .long x17), (19, .int x19), (20, .int x20), (21, .int x21)] → W p l e (RM 4 110 0 0) s m args below meth c H locs 0 0 (MQ below (PQ (EM D aC ad hz) (Rg ad) none) args s 0 0 (Rg ad)) (F0 m 32 ls [])) {k69 : MS → Int32 → Int32 → Int64 → Int64 → Int64 → Int64 → Int64 → Int64 → Int64 → Int64 → Int32 → Int32 → Int32 → Int32 → Option (MS)} (H69 : ∀ (h : MS) (x1 : Int32) (x2 : Int32) (x3 : Int64) (x5 : Int64) (x7 : Int64) (x9 : Int64) (x11 : Int64) (x13 : Int64) (x15 : Int64) (x17 : Int64) (x19 : Int32) (x20 : Int32) (x21 : Int32) (x22 : Int32), ∀ (H : Heap) (locs : List Loc) (ls : Array Slot), k69 h x1 x2 x3 x5 x7 x9 x11 x13 x15 x17 x19 x20 x21 x22 = some hz → CE (EM D aC ad h) (Rg ad) s H locs → lv_has ls 28 [(0, .ref (ad 116)), (1, .int x1), (2, .int x2), (3, .long x3), (5, .long x5), (7, .long x7), (9, .long x9), (11, .long x11), (13, .long x13), (15, .long x15), (17, .long x17), (19, .int x19), (20, .int x20), (21, .int x21), (22, .int x22)] → W p l e (RM 4 110 0 0) s m args below meth c H locs 0 0 (MQ below (PQ (EM D aC ad hz) (Rg ad) none) args s 0 0 (Rg ad)) (F0 m 69 ls [])) {h : MS} {x1 : Int32} {x2 : Int32} {x3 : Int64} {x5 : Int64} {x7 : Int64} {x9 : Int64} {x11 : Int64} {x13 : Int64} {x15 : Int64} {x17 : Int64} {x19 : Int32} {x21 : Int32} {x22 : Int32} {x23 : Int64} {x25 : Int64} {s0 : Int32}  {H : Heap} {locs : List Loc} {ls : Array Slot} (hf : fX12_reckons_359 k32 k69 h x1 x2 x3 x5 x7 x9 x11 x13 x15 x17 x19 x21 x22 x23 x25 s0 = some hz) (hE : CE (EM D aC ad h) (Rg ad) s H locs) (hl : lv_has ls 28 [(0, .ref (ad 116)), (1, .int x1), (2, .int x2), (3, .long x3), (5, .long x5), (7, .long x7), (9, .long x9), (11, .long x11), (13, .long x13), (15, .long x15), (17, .long x17), (19, .int x19), (21, .int x21), (22, .int x22), (23, .long x23), (25, .long x25)]) : W p l e (RM 4 110 0 0) s m args below meth c H locs 0 0 (MQ below (PQ (EM D aC ad hz) (Rg ad) none) args s 0 0 (Rg ad)) (F0 m 359 ls [.int s0]) := by
  unfold fX12_reckons_359 at hf
  refine lv_istore (lv' := [(27, .int s0), (0, .ref (ad 116)), (1, .int x1), (2, .int x2), (3, .long x3), (5, .long x5), (7, .long x7), (9, .long x9), (11, .long x11), (13, .long x13), (15, .long x15), (17, .long x17), (19, .int x19), (21, .int x21), (22, .int x22), (23, .long x23), (25, .long x25)]) b.1 b.2.1 dX12_reckons_359 hl (by decide) rfl (fun ls hl => ?_)
  refine lv_iload b.1 b.2.1 dX12_reckons_361 (lv_at hl 0 rfl) ?_
  refine lv_if_eq (tgt := 371) b.1 b.2.1 dX12_reckons_363 (by decide) (fun c27 => ?_) (fun c27 => ?_)
  · have hf := oI_t c27 hf
    refine lv_lload b.1 b.2.1 dX12_reckons_371 (lv_at hl 10 rfl) ?_
    exact wfX12_reckons_373 b hlk hr zs zk H32 H69 hf hE (lv_sub hl [1, 2, 3, 4, 5, 6, 7, 8, 9, 11, 12, 13, 14, 16, 0] rfl)
  · have hf := oI_f c27 hf
    refine lv_lload b.1 b.2.1 dX12_reckons_366 (lv_at hl 15 rfl) ?_
    refine lv_goto (tgt := 373) b.1 b.2.1 dX12_reckons_368 (by decide) ?_
    exact wfX12_reckons_373 b hlk hr zs zk H32 H69 hf hE (lv_sub hl [1, 2, 3, 4, 5, 6, 7, 8, 9, 11, 12, 13, 14, 16, 0] rfl)
def fX12_reckons_69F (k32 : MS → Int32 → Int32 → Int64 → Int64 → Int64 → Int64 → Int64 → Int64 → Int64 → Int64 → Int32 → Int32 → Int32 → Option (MS)) (k69 : MS → Int32 → Int32 → Int64 → Int64 → Int64 → Int64 → Int64 → Int64 → Int64 → Int64 → Int32 → Int32 → Int32 → Int32 → Option (MS)) (h : MS) (x1 : Int32) (x2 : Int32) (x3 : Int64) (x5 : Int64) (x7 : Int64) (x9 : Int64) (x11 : Int64) (x13 : Int64) (x15 : Int64) (x17 : Int64) (x19 : Int32) (x20 : Int32) (x21 : Int32) (x22 : Int32) : Option (MS) :=
  oB (fX12_instances h x21) (fun r29 => if r29 ≤ x22 then (fX12_reckons_401 k32 h x1 x2 x3 x5 x7 x9 x11 x13 x15 x17 x19 x20 x21) else (oC (ix ((125 * x21) + x22) (mlen 89)) (if (mA h 89 (Int32.toNatClampNeg ((125 * x21) + x22))) = 0 then (fX12_reckons_395 k32 k69 h x1 x2 x3 x5 x7 x9 x11 x13 x15 x17 x19 x20 x21 x22) else (oB (fX12_gives h x21 x22) (fun h34 => oC (ix x21 (mlen 46)) (oB (fX12_personOf h34 (mA h34 46 (Int32.toNatClampNeg x21)) 95) (fun r37 => if r37 = x2 then (oL (x19 + 1) (fun y39 => if x20 = 0 then (oC (ix x21 (mlen 49)) (oC (ix x21 (mlen 50)) (oB (fX12_worth h34 (mA h34 49 (Int32.toNatClampNeg x21)) (mA h34 50 (Int32.toNatClampNeg x21)) 95) (fun h44 => if (mI h44 79) = 0 then (oL (mL h44 80) (fun y46 => oL (mL h44 81) (fun y47 => oC (ix x21 (mlen 48)) (oL (mA h44 48 (Int32.toNatClampNeg x21)) (fun y49 => if y49 = 0 then (oB (fX12_join h44 3 x3 x5 y46 y47) (fun h52 => oL (mL h52 80) (fun y53 => oL (mL h52 81) (fun y54 => fX12_reckons_389 k32 k69 h52 x1 x2 y53 y54 x7 x9 x11 x13 x15 x17 y39 x21 x22)))) else (if y49 = 1 then (oB (fX12_join h44 5 x7 x9 y46 y47) (fun h57 => oL (mL h57 80) (fun y58 => oL (mL h57 81) (fun y59 => fX12_reckons_389 k32 k69 h57 x1 x2 x3 x5 y58 y59 x11 x13 x15 x17 y39 x21 x22)))) else (if y49 = 2 then (if (lg_cmp x13 0) = 0 then (fX12_reckons_300 k32 k69 h44 x1 x2 x3 x5 x7 x9 x11 x13 x15 x17 y39 x21 x22 y46 y47 1) else (oB (fX12_against y46 y47 x11 x13) (fun r63 => if 0 ≤ r63 then (fX12_reckons_300 k32 k69 h44 x1 x2 x3 x5 x7 x9 x11 x13 x15 x17 y39 x21 x22 y46 y47 0) else (fX12_reckons_300 k32 k69 h44 x1 x2 x3 x5 x7 x9 x11 x13 x15 x17 y39 x21 x22 y46 y47 1)))) else (if (lg_cmp x17 0) = 0 then (fX12_reckons_359 k32 k69 h44 x1 x2 x3 x5 x7 x9 x11 x13 x15 x17 y39 x21 x22 y46 y47 1) else (oB (fX12_against y46 y47 x15 x17) (fun r67 => if r67 ≤ 0 then (fX12_reckons_359 k32 k69 h44 x1 x2 x3 x5 x7 x9 x11 x13 x15 x17 y39 x21 x22 y46 y47 0) else (fX12_reckons_359 k32 k69 h44 x1 x2 x3 x5 x7 x9 x11 x13 x15 x17 y39 x21 x22 y46 y47 1))))))))))) else (fX12_reckons_395 k32 k69 h44 x1 x2 x3 x5 x7 x9 x11 x13 x15 x17 y39 1 x21 x22))))) else (fX12_reckons_395 k32 k69 h34 x1 x2 x3 x5 x7 x9 x11 x13 x15 x17 y39 x20 x21 x22))) else (fX12_reckons_395 k32 k69 h34 x1 x2 x3 x5 x7 x9 x11 x13 x15 x17 x19 x20 x21 x22))))))))
set_option maxHeartbeats 4000000 in
theorem wfX12_reckons_69F {args : Array Value} (b : Bd p s m c cX12_reckons 28 RX12 D aC) (hlk : meth.locks = false) (hr : meth.sig.returnType = none) {Z : State → Prop} (zs : Z s) (zk : ZOK Z (Rg ad)) {hz : MS} {k32 : MS → Int32 → Int32 → Int64 → Int64 → Int64 → Int64 → Int64 → Int64 → Int64 → Int64 → Int32 → Int32 → Int32 → Option (MS)} (H32 : ∀ (h : MS) (x1 : Int32) (x2 : Int32) (x3 : Int64) (x5 : Int64) (x7 : Int64) (x9 : Int64) (x11 : Int64) (x13 : Int64) (x15 : Int64) (x17 : Int64) (x19 : Int32) (x20 : Int32) (x21 : Int32), ∀ (H : Heap) (locs : List Loc) (ls : Array Slot), k32 h x1 x2 x3 x5 x7 x9 x11 x13 x15 x17 x19 x20 x21 = some hz → CE (EM D aC ad h) (Rg ad) s H locs → lv_has ls 28 [(0, .ref (ad 116)), (1, .int x1), (2, .int x2), (3, .long x3), (5, .long x5), (7, .long x7), (9, .long x9), (11, .long x11), (13, .long x13), (15, .long x15), (17, .long x17), (19, .int x19), (20, .int x20), (21, .int x21)] → W p l e (RM 4 110 0 0) s m args below meth c H locs 0 0 (MQ below (PQ (EM D aC ad hz) (Rg ad) none) args s 0 0 (Rg ad)) (F0 m 32 ls [])) {k69 : MS → Int32 → Int32 → Int64 → Int64 → Int64 → Int64 → Int64 → Int64 → Int64 → Int64 → Int32 → Int32 → Int32 → Int32 → Option (MS)} (H69 : ∀ (h : MS) (x1 : Int32) (x2 : Int32) (x3 : Int64) (x5 : Int64) (x7 : Int64) (x9 : Int64) (x11 : Int64) (x13 : Int64) (x15 : Int64) (x17 : Int64) (x19 : Int32) (x20 : Int32) (x21 : Int32) (x22 : Int32), ∀ (H : Heap) (locs : List Loc) (ls : Array Slot), k69 h x1 x2 x3 x5 x7 x9 x11 x13 x15 x17 x19 x20 x21 x22 = some hz → CE (EM D aC ad h) (Rg ad) s H locs → lv_has ls 28 [(0, .ref (ad 116)), (1, .int x1), (2, .int x2), (3, .long x3), (5, .long x5), (7, .long x7), (9, .long x9), (11, .long x11), (13, .long x13), (15, .long x15), (17, .long x17), (19, .int x19), (20, .int x20), (21, .int x21), (22, .int x22)] → W p l e (RM 4 110 0 0) s m args below meth c H locs 0 0 (MQ below (PQ (EM D aC ad hz) (Rg ad) none) args s 0 0 (Rg ad)) (F0 m 69 ls [])) {h : MS} {x1 : Int32} {x2 : Int32} {x3 : Int64} {x5 : Int64} {x7 : Int64} {x9 : Int64} {x11 : Int64} {x13 : Int64} {x15 : Int64} {x17 : Int64} {x19 : Int32} {x20 : Int32} {x21 : Int32} {x22 : Int32}  {H : Heap} {locs : List Loc} {ls : Array Slot} (hf : fX12_reckons_69F k32 k69 h x1 x2 x3 x5 x7 x9 x11 x13 x15 x17 x19 x20 x21 x22 = some hz) (hE : CE (EM D aC ad h) (Rg ad) s H locs) (hl : lv_has ls 28 [(0, .ref (ad 116)), (1, .int x1), (2, .int x2), (3, .long x3), (5, .long x5), (7, .long x7), (9, .long x9), (11, .long x11), (13, .long x13), (15, .long x15), (17, .long x17), (19, .int x19), (20, .int x20), (21, .int x21), (22, .int x22)]) : W p l e (RM 4 110 0 0) s m args below meth c H locs 0 0 (MQ below (PQ (EM D aC ad hz) (Rg ad) none) args s 0 0 (Rg ad)) (F0 m 69 ls []) := by
  unfold fX12_reckons_69F at hf
  refine lv_iload b.1 b.2.1 dX12_reckons_69 (lv_at hl 14 rfl) ?_
  refine lv_aload_n b.1 b.2.1 dX12_reckons_71 rfl (lv_at hl 0 rfl) ?_
  refine lv_iload b.1 b.2.1 dX12_reckons_72 (lv_at hl 13 rfl) ?_
  obtain ⟨r29, hc28, hf⟩ := oB_s hf
  refine k_callV0 (C := RX12) b zs zk hE (CX12_instances l D aC ad zk hc28) mc_X12_instances (in8 9 rfl rfl) mi_X12_instances ms_X12_instances ini_RX12 ok_X12_instances (m_recv b hE) ⟨Nat.le_of_ble_eq_true rfl, Nat.le_of_ble_eq_true rfl⟩ rfl hl.1 rfl (k_room _ (by exact Nat.le_of_ble_eq_true rfl)) ⟨Nat.le_refl _, Nat.le_refl _⟩ dX12_reckons_74 (fun H locs hE => ?_)
  refine lv_icmp_ge (tgt := 401) b.1 b.2.1 dX12_reckons_77 (by decide) (fun c30 => ?_) (fun c30 => ?_)
  · have hf := oI_t c30 hf
    exact wfX12_reckons_401 b hlk hr zs zk H32 hf hE (lv_sub hl [0, 1, 2, 3, 4, 5, 6, 7, 8, 9, 10, 11, 12, 13] rfl)
  · have hf := oI_f c30 hf
    refine lv_aload_n b.1 b.2.1 dX12_reckons_80 rfl (lv_at hl 0 rfl) ?_
    refine gM_198 b hE dX12_reckons_81 ?_
    refine lv_bipush (v := 125) b.1 b.2.1 dX12_reckons_84 (by decide) ?_
    refine lv_iload b.1 b.2.1 dX12_reckons_86 (lv_at hl 13 rfl) ?_
    refine lv_imul b.1 b.2.1 dX12_reckons_88 ?_
    refine lv_iload b.1 b.2.1 dX12_reckons_89 (lv_at hl 14 rfl) ?_
    refine lv_iadd b.1 b.2.1 dX12_reckons_91 ?_
    obtain ⟨g31, hf⟩ := oC_s hf
    refine m_zald b hE rfl rfl g31 dX12_reckons_92 ?_
    refine lv_if_ne (tgt := 99) b.1 b.2.1 dX12_reckons_93 (by decide) (fun c32 => ?_) (fun c32 => ?_)
    · have hf := oI_f c32 hf
      refine lv_aload_n b.1 b.2.1 dX12_reckons_99 rfl (lv_at hl 0 rfl) ?_
      refine lv_iload b.1 b.2.1 dX12_reckons_100 (lv_at hl 13 rfl) ?_
      refine lv_iload b.1 b.2.1 dX12_reckons_102 (lv_at hl 14 rfl) ?_
      obtain ⟨h34, hc33, hf⟩ := oB_s hf
      refine k_callV0 (C := RX12) b zs zk hE (CX12_gives l D aC ad zk hc33) mc_X12_gives (in8 13 rfl rfl) mi_X12_gives ms_X12_gives ini_RX12 ok_X12_gives (m_recv b hE) ⟨Nat.le_of_ble_eq_true rfl, Nat.le_of_ble_eq_true rfl⟩ rfl hl.1 rfl (k_room _ (by exact Nat.le_of_ble_eq_true rfl)) ⟨Nat.le_refl _, Nat.le_refl _⟩ dX12_reckons_104 (fun H locs hE => ?_)
      refine lv_aload_n b.1 b.2.1 dX12_reckons_107 rfl (lv_at hl 0 rfl) ?_
      refine gM_104 b hE dX12_reckons_108 ?_
      refine lv_iload b.1 b.2.1 dX12_reckons_111 (lv_at hl 13 rfl) ?_
      obtain ⟨g35, hf⟩ := oC_s hf
      refine m_iald b hE rfl rfl g35 dX12_reckons_113 ?_
      refine lv_aload_n b.1 b.2.1 dX12_reckons_114 rfl (lv_at hl 0 rfl) ?_
      refine gM_216 b hE dX12_reckons_115 ?_
      obtain ⟨r37, hc36, hf⟩ := oB_s hf
      refine k_callS0 b zs zk hE (CX12_personOf l D aC ad zk hc36) mc_X12_personOf (in8 21 rfl rfl) mt_X12_personOf ini_RX12 ok_X12_personOf ⟨Nat.le_of_ble_eq_true rfl, Nat.le_of_ble_eq_true rfl⟩ rfl hl.1 rfl (k_room _ (by exact Nat.le_of_ble_eq_true rfl)) ⟨Nat.le_refl _, Nat.le_refl _⟩ dX12_reckons_118 (fun H locs hE => ?_)
      refine lv_iload_n b.1 b.2.1 dX12_reckons_121 rfl (lv_at hl 2 rfl) ?_
      refine lv_icmp_eq (tgt := 128) b.1 b.2.1 dX12_reckons_122 (by decide) (fun c38 => ?_) (fun c38 => ?_)
      · have hf := oI_t c38 hf
        obtain ⟨y39, ey39, hf⟩ := oL_s hf
        refine lv_iinc (v := y39) (lv' := [(19, .int y39), (0, .ref (ad 116)), (1, .int x1), (2, .int x2), (3, .long x3), (5, .long x5), (7, .long x7), (9, .long x9), (11, .long x11), (13, .long x13), (15, .long x15), (17, .long x17), (20, .int x20), (21, .int x21), (22, .int x22)]) b.1 b.2.1 dX12_reckons_128 hl (k := 11) rfl (by rw [ey39]; rfl) (by decide) rfl (fun ls hl => ?_)
        refine lv_iload b.1 b.2.1 dX12_reckons_131 (lv_at hl 12 rfl) ?_
        refine lv_if_eq (tgt := 139) b.1 b.2.1 dX12_reckons_133 (by decide) (fun c40 => ?_) (fun c40 => ?_)
        · have hf := oI_t c40 hf
          refine lv_aload_n b.1 b.2.1 dX12_reckons_139 rfl (lv_at hl 1 rfl) ?_
          refine lv_aload_n b.1 b.2.1 dX12_reckons_140 rfl (lv_at hl 1 rfl) ?_
          refine gM_113 b hE dX12_reckons_141 ?_
          refine lv_iload b.1 b.2.1 dX12_reckons_144 (lv_at hl 13 rfl) ?_
          obtain ⟨g41, hf⟩ := oC_s hf
          refine m_iald b hE rfl rfl g41 dX12_reckons_146 ?_
          refine lv_aload_n b.1 b.2.1 dX12_reckons_147 rfl (lv_at hl 1 rfl) ?_
          refine gM_116 b hE dX12_reckons_148 ?_
          refine lv_iload b.1 b.2.1 dX12_reckons_151 (lv_at hl 13 rfl) ?_
          obtain ⟨g42, hf⟩ := oC_s hf
          refine m_iald b hE rfl rfl g42 dX12_reckons_153 ?_
          refine lv_aload_n b.1 b.2.1 dX12_reckons_154 rfl (lv_at hl 1 rfl) ?_
          refine gM_216 b hE dX12_reckons_155 ?_
          obtain ⟨h44, hc43, hf⟩ := oB_s hf
          refine k_callV0 (C := RX12) b zs zk hE (CX12_worth l D aC ad zk hc43) mc_X12_worth (in8 28 rfl rfl) mi_X12_worth ms_X12_worth ini_RX12 ok_X12_worth (m_recv b hE) ⟨Nat.le_of_ble_eq_true rfl, Nat.le_of_ble_eq_true rfl⟩ rfl hl.1 rfl (k_room _ (by exact Nat.le_of_ble_eq_true rfl)) ⟨Nat.le_refl _, Nat.le_refl _⟩ dX12_reckons_158 (fun H locs hE => ?_)
          refine lv_aload_n b.1 b.2.1 dX12_reckons_161 rfl (lv_at hl 1 rfl) ?_
          refine gM_463 b hE dX12_reckons_162 ?_
          refine lv_if_eq (tgt := 174) b.1 b.2.1 dX12_reckons_165 (by decide) (fun c45 => ?_) (fun c45 => ?_)
          · have hf := oI_t c45 hf
            refine lv_aload_n b.1 b.2.1 dX12_reckons_174 rfl (lv_at hl 1 rfl) ?_
            refine gM_452 b hE dX12_reckons_175 ?_
            obtain ⟨y46, ey46, hf⟩ := oL_s hf
            refine k_nmL ey46 ?_
            refine lv_lstore (lv' := [(23, .long y46), (19, .int y39), (0, .ref (ad 116)), (1, .int x1), (2, .int x2), (3, .long x3), (5, .long x5), (7, .long x7), (9, .long x9), (11, .long x11), (13, .long x13), (15, .long x15), (17, .long x17), (20, .int x20), (21, .int x21), (22, .int x22)]) b.1 b.2.1 dX12_reckons_178 hl (by decide) rfl (fun ls hl => ?_)
            have hl := lv_sub (l' := [(23, .long y46), (19, .int y39), (0, .ref (ad 116)), (1, .int x1), (2, .int x2), (3, .long x3), (5, .long x5), (7, .long x7), (9, .long x9), (11, .long x11), (13, .long x13), (15, .long x15), (17, .long x17), (21, .int x21), (22, .int x22)]) hl [0, 1, 2, 3, 4, 5, 6, 7, 8, 9, 10, 11, 12, 14, 15] rfl
            refine lv_aload_n b.1 b.2.1 dX12_reckons_180 rfl (lv_at hl 2 rfl) ?_
            refine gM_456 b hE dX12_reckons_181 ?_
            obtain ⟨y47, ey47, hf⟩ := oL_s hf
            refine k_nmL ey47 ?_
            refine lv_lstore (lv' := [(25, .long y47), (23, .long y46), (19, .int y39), (0, .ref (ad 116)), (1, .int x1), (2, .int x2), (3, .long x3), (5, .long x5), (7, .long x7), (9, .long x9), (11, .long x11), (13, .long x13), (15, .long x15), (17, .long x17), (21, .int x21), (22, .int x22)]) b.1 b.2.1 dX12_reckons_184 hl (by decide) rfl (fun ls hl => ?_)
            refine lv_aload_n b.1 b.2.1 dX12_reckons_186 rfl (lv_at hl 3 rfl) ?_
            refine gM_110 b hE dX12_reckons_187 ?_
            refine lv_iload b.1 b.2.1 dX12_reckons_190 (lv_at hl 14 rfl) ?_
            obtain ⟨g48, hf⟩ := oC_s hf
            refine m_iald b hE rfl rfl g48 dX12_reckons_192 ?_
            obtain ⟨y49, ey49, hf⟩ := oL_s hf
            refine k_nmI ey49 ?_
            rcases Decidable.em (y49 = 0) with c50 | c50
            · have hf := oI_t c50 hf
              refine lv_tableIn (tgt := 220) b.1 b.2.1 dX12_reckons_193 (off := 27) (by rw [c50]; decide) (by rw [c50]; decide) (by rw [c50] <;> rfl) (by decide) ?_
              refine lv_aload_n b.1 b.2.1 dX12_reckons_220 rfl (lv_at hl 3 rfl) ?_
              refine lv_iconst (v := 3) b.1 b.2.1 dX12_reckons_221 (by decide) ?_
              refine lv_lload_n b.1 b.2.1 dX12_reckons_222 rfl (lv_at hl 6 rfl) ?_
              refine lv_lload b.1 b.2.1 dX12_reckons_223 (lv_at hl 7 rfl) ?_
              refine lv_lload b.1 b.2.1 dX12_reckons_225 (lv_at hl 1 rfl) ?_
              refine lv_lload b.1 b.2.1 dX12_reckons_227 (lv_at hl 0 rfl) ?_
              obtain ⟨h52, hc51, hf⟩ := oB_s hf
              refine k_callV0 (C := RX12) b zs zk hE (CX12_join l D aC ad zk hc51) mc_X12_join (in8 41 rfl rfl) mi_X12_join ms_X12_join ini_RX12 ok_X12_join (m_recv b hE) ⟨Nat.le_of_ble_eq_true rfl, Nat.le_of_ble_eq_true rfl⟩ rfl hl.1 rfl (k_room _ (by exact Nat.le_of_ble_eq_true rfl)) ⟨Nat.le_refl _, Nat.le_refl _⟩ dX12_reckons_229 (fun H locs hE => ?_)
              refine lv_aload_n b.1 b.2.1 dX12_reckons_232 rfl (lv_at hl 3 rfl) ?_
              refine gM_452 b hE dX12_reckons_233 ?_
              obtain ⟨y53, ey53, hf⟩ := oL_s hf
              refine k_nmL ey53 ?_
              refine lv_lstore_n (lv' := [(3, .long y53), (25, .long y47), (23, .long y46), (19, .int y39), (0, .ref (ad 116)), (1, .int x1), (2, .int x2), (5, .long x5), (7, .long x7), (9, .long x9), (11, .long x11), (13, .long x13), (15, .long x15), (17, .long x17), (21, .int x21), (22, .int x22)]) b.1 b.2.1 dX12_reckons_236 rfl hl (by decide) rfl (fun ls hl => ?_)
              have hl := lv_sub (l' := [(3, .long y53), (19, .int y39), (0, .ref (ad 116)), (1, .int x1), (2, .int x2), (7, .long x7), (9, .long x9), (11, .long x11), (13, .long x13), (15, .long x15), (17, .long x17), (21, .int x21), (22, .int x22)]) hl [0, 3, 4, 5, 6, 8, 9, 10, 11, 12, 13, 14, 15] rfl
              refine lv_aload_n b.1 b.2.1 dX12_reckons_237 rfl (lv_at hl 2 rfl) ?_
              refine gM_456 b hE dX12_reckons_238 ?_
              obtain ⟨y54, ey54, hf⟩ := oL_s hf
              refine k_nmL ey54 ?_
              refine lv_lstore (lv' := [(5, .long y54), (3, .long y53), (19, .int y39), (0, .ref (ad 116)), (1, .int x1), (2, .int x2), (7, .long x7), (9, .long x9), (11, .long x11), (13, .long x13), (15, .long x15), (17, .long x17), (21, .int x21), (22, .int x22)]) b.1 b.2.1 dX12_reckons_241 hl (by decide) rfl (fun ls hl => ?_)
              refine lv_goto (tgt := 389) b.1 b.2.1 dX12_reckons_243 (by decide) ?_
              exact wfX12_reckons_389 b hlk hr zs zk H32 H69 hf hE (lv_sub hl [3, 4, 5, 1, 0, 6, 7, 8, 9, 10, 11, 2, 12, 13] rfl)
            have hf := oI_f c50 hf
            rcases Decidable.em (y49 = 1) with c55 | c55
            · have hf := oI_t c55 hf
              refine lv_tableIn (tgt := 246) b.1 b.2.1 dX12_reckons_193 (off := 53) (by rw [c55]; decide) (by rw [c55]; decide) (by rw [c55] <;> rfl) (by decide) ?_
              refine lv_aload_n b.1 b.2.1 dX12_reckons_246 rfl (lv_at hl 3 rfl) ?_
              refine lv_iconst (v := 5) b.1 b.2.1 dX12_reckons_247 (by decide) ?_
              refine lv_lload b.1 b.2.1 dX12_reckons_248 (lv_at hl 8 rfl) ?_
              refine lv_lload b.1 b.2.1 dX12_reckons_250 (lv_at hl 9 rfl) ?_
              refine lv_lload b.1 b.2.1 dX12_reckons_252 (lv_at hl 1 rfl) ?_
              refine lv_lload b.1 b.2.1 dX12_reckons_254 (lv_at hl 0 rfl) ?_
              obtain ⟨h57, hc56, hf⟩ := oB_s hf
              refine k_callV0 (C := RX12) b zs zk hE (CX12_join l D aC ad zk hc56) mc_X12_join (in8 41 rfl rfl) mi_X12_join ms_X12_join ini_RX12 ok_X12_join (m_recv b hE) ⟨Nat.le_of_ble_eq_true rfl, Nat.le_of_ble_eq_true rfl⟩ rfl hl.1 rfl (k_room _ (by exact Nat.le_of_ble_eq_true rfl)) ⟨Nat.le_refl _, Nat.le_refl _⟩ dX12_reckons_256 (fun H locs hE => ?_)
              refine lv_aload_n b.1 b.2.1 dX12_reckons_259 rfl (lv_at hl 3 rfl) ?_
              refine gM_452 b hE dX12_reckons_260 ?_
              obtain ⟨y58, ey58, hf⟩ := oL_s hf
              refine k_nmL ey58 ?_
              refine lv_lstore (lv' := [(7, .long y58), (25, .long y47), (23, .long y46), (19, .int y39), (0, .ref (ad 116)), (1, .int x1), (2, .int x2), (3, .long x3), (5, .long x5), (9, .long x9), (11, .long x11), (13, .long x13), (15, .long x15), (17, .long x17), (21, .int x21), (22, .int x22)]) b.1 b.2.1 dX12_reckons_263 hl (by decide) rfl (fun ls hl => ?_)
              have hl := lv_sub (l' := [(7, .long y58), (19, .int y39), (0, .ref (ad 116)), (1, .int x1), (2, .int x2), (3, .long x3), (5, .long x5), (11, .long x11), (13, .long x13), (15, .long x15), (17, .long x17), (21, .int x21), (22, .int x22)]) hl [0, 3, 4, 5, 6, 7, 8, 10, 11, 12, 13, 14, 15] rfl
              refine lv_aload_n b.1 b.2.1 dX12_reckons_265 rfl (lv_at hl 2 rfl) ?_
              refine gM_456 b hE dX12_reckons_266 ?_
              obtain ⟨y59, ey59, hf⟩ := oL_s hf
              refine k_nmL ey59 ?_
              refine lv_lstore (lv' := [(9, .long y59), (7, .long y58), (19, .int y39), (0, .ref (ad 116)), (1, .int x1), (2, .int x2), (3, .long x3), (5, .long x5), (11, .long x11), (13, .long x13), (15, .long x15), (17, .long x17), (21, .int x21), (22, .int x22)]) b.1 b.2.1 dX12_reckons_269 hl (by decide) rfl (fun ls hl => ?_)
              refine lv_goto (tgt := 389) b.1 b.2.1 dX12_reckons_271 (by decide) ?_
              exact wfX12_reckons_389 b hlk hr zs zk H32 H69 hf hE (lv_sub hl [3, 4, 5, 6, 7, 1, 0, 8, 9, 10, 11, 2, 12, 13] rfl)
            have hf := oI_f c55 hf
            rcases Decidable.em (y49 = 2) with c60 | c60
            · have hf := oI_t c60 hf
              refine lv_tableIn (tgt := 274) b.1 b.2.1 dX12_reckons_193 (off := 81) (by rw [c60]; decide) (by rw [c60]; decide) (by rw [c60] <;> rfl) (by decide) ?_
              refine lv_lload b.1 b.2.1 dX12_reckons_274 (lv_at hl 11 rfl) ?_
              refine lv_lconst (v := 0) b.1 b.2.1 dX12_reckons_276 rfl ?_
              refine W.lcmp b.1 b.2.1 dX12_reckons_277 ?_
              refine lv_if_eq (tgt := 295) b.1 b.2.1 dX12_reckons_278 (by decide) (fun c61 => ?_) (fun c61 => ?_)
              · have hf := oI_t c61 hf
                refine lv_iconst (v := 1) b.1 b.2.1 dX12_reckons_295 (by decide) ?_
                refine lv_goto (tgt := 300) b.1 b.2.1 dX12_reckons_296 (by decide) ?_
                exact wfX12_reckons_300 b hlk hr zs zk H32 H69 hf hE (lv_sub hl [3, 4, 5, 6, 7, 8, 9, 10, 11, 12, 13, 2, 14, 15, 1, 0] rfl)
              · have hf := oI_f c61 hf
                refine lv_lload b.1 b.2.1 dX12_reckons_281 (lv_at hl 1 rfl) ?_
                refine lv_lload b.1 b.2.1 dX12_reckons_283 (lv_at hl 0 rfl) ?_
                refine lv_lload b.1 b.2.1 dX12_reckons_285 (lv_at hl 10 rfl) ?_
                refine lv_lload b.1 b.2.1 dX12_reckons_287 (lv_at hl 11 rfl) ?_
                obtain ⟨r63, hc62, hf⟩ := oB_s hf
                refine k_callS0 b zs zk hE (CX12_against l D aC zk hc62) mc_X12_against (in8 45 rfl rfl) mt_X12_against ini_RX12 ok_X12_against ⟨Nat.le_of_ble_eq_true rfl, Nat.le_of_ble_eq_true rfl⟩ rfl hl.1 rfl (k_room _ (by exact Nat.le_of_ble_eq_true rfl)) ⟨Nat.le_refl _, Nat.le_refl _⟩ dX12_reckons_289 (fun H locs hE => ?_)
                refine lv_if_ge (tgt := 299) b.1 b.2.1 dX12_reckons_292 (by decide) (fun c64 => ?_) (fun c64 => ?_)
                · have hf := oI_t c64 hf
                  refine lv_iconst (v := 0) b.1 b.2.1 dX12_reckons_299 (by decide) ?_
                  exact wfX12_reckons_300 b hlk hr zs zk H32 H69 hf hE (lv_sub hl [3, 4, 5, 6, 7, 8, 9, 10, 11, 12, 13, 2, 14, 15, 1, 0] rfl)
                · have hf := oI_f c64 hf
                  refine lv_iconst (v := 1) b.1 b.2.1 dX12_reckons_295 (by decide) ?_
                  refine lv_goto (tgt := 300) b.1 b.2.1 dX12_reckons_296 (by decide) ?_
                  exact wfX12_reckons_300 b hlk hr zs zk H32 H69 hf hE (lv_sub hl [3, 4, 5, 6, 7, 8, 9, 10, 11, 12, 13, 2, 14, 15, 1, 0] rfl)
            have hf := oI_f c60 hf
            have c50 := lv_neT (a := 0) c50 (by decide)
            have c55 := lv_neT (a := 1) c55 (by decide)
            have c60 := lv_neT (a := 2) c60 (by decide)
            refine lv_tableOut (tgt := 333) b.1 b.2.1 dX12_reckons_193 (by omega) (by decide) ?_
            refine lv_lload b.1 b.2.1 dX12_reckons_333 (lv_at hl 13 rfl) ?_
            refine lv_lconst (v := 0) b.1 b.2.1 dX12_reckons_335 rfl ?_
            refine W.lcmp b.1 b.2.1 dX12_reckons_336 ?_
            refine lv_if_eq (tgt := 354) b.1 b.2.1 dX12_reckons_337 (by decide) (fun c65 => ?_) (fun c65 => ?_)
            · have hf := oI_t c65 hf
              refine lv_iconst (v := 1) b.1 b.2.1 dX12_reckons_354 (by decide) ?_
              refine lv_goto (tgt := 359) b.1 b.2.1 dX12_reckons_355 (by decide) ?_
              exact wfX12_reckons_359 b hlk hr zs zk H32 H69 hf hE (lv_sub hl [3, 4, 5, 6, 7, 8, 9, 10, 11, 12, 13, 2, 14, 15, 1, 0] rfl)
            · have hf := oI_f c65 hf
              refine lv_lload b.1 b.2.1 dX12_reckons_340 (lv_at hl 1 rfl) ?_
              refine lv_lload b.1 b.2.1 dX12_reckons_342 (lv_at hl 0 rfl) ?_
              refine lv_lload b.1 b.2.1 dX12_reckons_344 (lv_at hl 12 rfl) ?_
              refine lv_lload b.1 b.2.1 dX12_reckons_346 (lv_at hl 13 rfl) ?_
              obtain ⟨r67, hc66, hf⟩ := oB_s hf
              refine k_callS0 b zs zk hE (CX12_against l D aC zk hc66) mc_X12_against (in8 45 rfl rfl) mt_X12_against ini_RX12 ok_X12_against ⟨Nat.le_of_ble_eq_true rfl, Nat.le_of_ble_eq_true rfl⟩ rfl hl.1 rfl (k_room _ (by exact Nat.le_of_ble_eq_true rfl)) ⟨Nat.le_refl _, Nat.le_refl _⟩ dX12_reckons_348 (fun H locs hE => ?_)
              refine lv_if_le (tgt := 358) b.1 b.2.1 dX12_reckons_351 (by decide) (fun c68 => ?_) (fun c68 => ?_)
              · have hf := oI_t c68 hf
                refine lv_iconst (v := 0) b.1 b.2.1 dX12_reckons_358 (by decide) ?_
                exact wfX12_reckons_359 b hlk hr zs zk H32 H69 hf hE (lv_sub hl [3, 4, 5, 6, 7, 8, 9, 10, 11, 12, 13, 2, 14, 15, 1, 0] rfl)
              · have hf := oI_f c68 hf
                refine lv_iconst (v := 1) b.1 b.2.1 dX12_reckons_354 (by decide) ?_
                refine lv_goto (tgt := 359) b.1 b.2.1 dX12_reckons_355 (by decide) ?_
                exact wfX12_reckons_359 b hlk hr zs zk H32 H69 hf hE (lv_sub hl [3, 4, 5, 6, 7, 8, 9, 10, 11, 12, 13, 2, 14, 15, 1, 0] rfl)
          · have hf := oI_f c45 hf
            refine lv_iconst (v := 1) b.1 b.2.1 dX12_reckons_168 (by decide) ?_
            refine lv_istore (lv' := [(20, .int 1), (19, .int y39), (0, .ref (ad 116)), (1, .int x1), (2, .int x2), (3, .long x3), (5, .long x5), (7, .long x7), (9, .long x9), (11, .long x11), (13, .long x13), (15, .long x15), (17, .long x17), (21, .int x21), (22, .int x22)]) b.1 b.2.1 dX12_reckons_169 hl (by decide) rfl (fun ls hl => ?_)
            refine lv_goto (tgt := 395) b.1 b.2.1 dX12_reckons_171 (by decide) ?_
            exact wfX12_reckons_395 b hlk hr zs zk H32 H69 hf hE (lv_sub hl [2, 3, 4, 5, 6, 7, 8, 9, 10, 11, 12, 1, 0, 13, 14] rfl)
        · have hf := oI_f c40 hf
          refine lv_goto (tgt := 395) b.1 b.2.1 dX12_reckons_136 (by decide) ?_
          exact wfX12_reckons_395 b hlk hr zs zk H32 H69 hf hE (lv_sub hl [1, 2, 3, 4, 5, 6, 7, 8, 9, 10, 11, 0, 12, 13, 14] rfl)
      · have hf := oI_f c38 hf
        refine lv_goto (tgt := 395) b.1 b.2.1 dX12_reckons_125 (by decide) ?_
        exact wfX12_reckons_395 b hlk hr zs zk H32 H69 hf hE (lv_sub hl [0, 1, 2, 3, 4, 5, 6, 7, 8, 9, 10, 11, 12, 13, 14] rfl)
    · have hf := oI_t c32 hf
      refine lv_goto (tgt := 395) b.1 b.2.1 dX12_reckons_96 (by decide) ?_
      exact wfX12_reckons_395 b hlk hr zs zk H32 H69 hf hE (lv_sub hl [0, 1, 2, 3, 4, 5, 6, 7, 8, 9, 10, 11, 12, 13, 14] rfl)
def fX12_reckons_69 (k32 : MS → Int32 → Int32 → Int64 → Int64 → Int64 → Int64 → Int64 → Int64 → Int64 → Int64 → Int32 → Int32 → Int32 → Option (MS)) : Nat → MS → Int32 → Int32 → Int64 → Int64 → Int64 → Int64 → Int64 → Int64 → Int64 → Int64 → Int32 → Int32 → Int32 → Int32 → Option (MS)
  | 0 => fun _ _ _ _ _ _ _ _ _ _ _ _ _ _ _ => none
  | n + 1 => fX12_reckons_69F k32 (fX12_reckons_69 k32 n)
set_option maxHeartbeats 4000000 in
theorem wfX12_reckons_69 {args : Array Value} (b : Bd p s m c cX12_reckons 28 RX12 D aC) (hlk : meth.locks = false) (hr : meth.sig.returnType = none) {Z : State → Prop} (zs : Z s) (zk : ZOK Z (Rg ad)) {hz : MS} {k32 : MS → Int32 → Int32 → Int64 → Int64 → Int64 → Int64 → Int64 → Int64 → Int64 → Int64 → Int32 → Int32 → Int32 → Option (MS)} (H32 : ∀ (h : MS) (x1 : Int32) (x2 : Int32) (x3 : Int64) (x5 : Int64) (x7 : Int64) (x9 : Int64) (x11 : Int64) (x13 : Int64) (x15 : Int64) (x17 : Int64) (x19 : Int32) (x20 : Int32) (x21 : Int32), ∀ (H : Heap) (locs : List Loc) (ls : Array Slot), k32 h x1 x2 x3 x5 x7 x9 x11 x13 x15 x17 x19 x20 x21 = some hz → CE (EM D aC ad h) (Rg ad) s H locs → lv_has ls 28 [(0, .ref (ad 116)), (1, .int x1), (2, .int x2), (3, .long x3), (5, .long x5), (7, .long x7), (9, .long x9), (11, .long x11), (13, .long x13), (15, .long x15), (17, .long x17), (19, .int x19), (20, .int x20), (21, .int x21)] → W p l e (RM 4 110 0 0) s m args below meth c H locs 0 0 (MQ below (PQ (EM D aC ad hz) (Rg ad) none) args s 0 0 (Rg ad)) (F0 m 32 ls [])) : ∀ n : Nat, ∀ (h : MS) (x1 : Int32) (x2 : Int32) (x3 : Int64) (x5 : Int64) (x7 : Int64) (x9 : Int64) (x11 : Int64) (x13 : Int64) (x15 : Int64) (x17 : Int64) (x19 : Int32) (x20 : Int32) (x21 : Int32) (x22 : Int32), ∀ (H : Heap) (locs : List Loc) (ls : Array Slot), fX12_reckons_69 k32 n h x1 x2 x3 x5 x7 x9 x11 x13 x15 x17 x19 x20 x21 x22 = some hz → CE (EM D aC ad h) (Rg ad) s H locs → lv_has ls 28 [(0, .ref (ad 116)), (1, .int x1), (2, .int x2), (3, .long x3), (5, .long x5), (7, .long x7), (9, .long x9), (11, .long x11), (13, .long x13), (15, .long x15), (17, .long x17), (19, .int x19), (20, .int x20), (21, .int x21), (22, .int x22)] → W p l e (RM 4 110 0 0) s m args below meth c H locs 0 0 (MQ below (PQ (EM D aC ad hz) (Rg ad) none) args s 0 0 (Rg ad)) (F0 m 69 ls []) := by
  intro n
  induction n with
  | zero =>
    intro h x1 x2 x3 x5 x7 x9 x11 x13 x15 x17 x19 x20 x21 x22 H locs ls hf
    have hf : (none : Option (MS)) = some _ := hf
    cases hf
  | succ n ih =>
    intro h x1 x2 x3 x5 x7 x9 x11 x13 x15 x17 x19 x20 x21 x22 H locs ls hf hE hl
    exact wfX12_reckons_69F b hlk hr zs zk H32 ih hf hE hl
def fX12_reckons_32F (k32 : MS → Int32 → Int32 → Int64 → Int64 → Int64 → Int64 → Int64 → Int64 → Int64 → Int64 → Int32 → Int32 → Int32 → Option (MS)) (h : MS) (x1 : Int32) (x2 : Int32) (x3 : Int64) (x5 : Int64) (x7 : Int64) (x9 : Int64) (x11 : Int64) (x13 : Int64) (x15 : Int64) (x17 : Int64) (x19 : Int32) (x20 : Int32) (x21 : Int32) : Option (MS) :=
  if (mI h 22) ≤ x21 then (if x20 = 0 then (oL (mSI h 79 0) (fun h71 => oB (fX12_join h71 5 x3 x5 x7 x9) (fun h73 => oL (mI h73 79) (fun y74 => oL (mL h73 80) (fun y75 => oL (mL h73 81) (fun y76 => fX12_reckons_446  h73 x1 x2 y75 y76 x11 x13 x15 x17 x19 y74)))))) else (fX12_reckons_446  h x1 x2 x3 x5 x11 x13 x15 x17 x19 x20)) else (oC (ix x21 (mlen 40)) (if (mA h 40 (Int32.toNatClampNeg x21)) = 2 then (oC (ix x21 (mlen 44)) (if (mA h 44 (Int32.toNatClampNeg x21)) = x1 then (fX12_reckons_69 k32 FU h x1 x2 x3 x5 x7 x9 x11 x13 x15 x17 x19 x20 x21 0) else (fX12_reckons_401 k32 h x1 x2 x3 x5 x7 x9 x11 x13 x15 x17 x19 x20 x21))) else (fX12_reckons_401 k32 h x1 x2 x3 x5 x7 x9 x11 x13 x15 x17 x19 x20 x21)))
set_option maxHeartbeats 4000000 in
theorem wfX12_reckons_32F {args : Array Value} (b : Bd p s m c cX12_reckons 28 RX12 D aC) (hlk : meth.locks = false) (hr : meth.sig.returnType = none) {Z : State → Prop} (zs : Z s) (zk : ZOK Z (Rg ad)) {hz : MS} {k32 : MS → Int32 → Int32 → Int64 → Int64 → Int64 → Int64 → Int64 → Int64 → Int64 → Int64 → Int32 → Int32 → Int32 → Option (MS)} (H32 : ∀ (h : MS) (x1 : Int32) (x2 : Int32) (x3 : Int64) (x5 : Int64) (x7 : Int64) (x9 : Int64) (x11 : Int64) (x13 : Int64) (x15 : Int64) (x17 : Int64) (x19 : Int32) (x20 : Int32) (x21 : Int32), ∀ (H : Heap) (locs : List Loc) (ls : Array Slot), k32 h x1 x2 x3 x5 x7 x9 x11 x13 x15 x17 x19 x20 x21 = some hz → CE (EM D aC ad h) (Rg ad) s H locs → lv_has ls 28 [(0, .ref (ad 116)), (1, .int x1), (2, .int x2), (3, .long x3), (5, .long x5), (7, .long x7), (9, .long x9), (11, .long x11), (13, .long x13), (15, .long x15), (17, .long x17), (19, .int x19), (20, .int x20), (21, .int x21)] → W p l e (RM 4 110 0 0) s m args below meth c H locs 0 0 (MQ below (PQ (EM D aC ad hz) (Rg ad) none) args s 0 0 (Rg ad)) (F0 m 32 ls [])) {h : MS} {x1 : Int32} {x2 : Int32} {x3 : Int64} {x5 : Int64} {x7 : Int64} {x9 : Int64} {x11 : Int64} {x13 : Int64} {x15 : Int64} {x17 : Int64} {x19 : Int32} {x20 : Int32} {x21 : Int32}  {H : Heap} {locs : List Loc} {ls : Array Slot} (hf : fX12_reckons_32F k32 h x1 x2 x3 x5 x7 x9 x11 x13 x15 x17 x19 x20 x21 = some hz) (hE : CE (EM D aC ad h) (Rg ad) s H locs) (hl : lv_has ls 28 [(0, .ref (ad 116)), (1, .int x1), (2, .int x2), (3, .long x3), (5, .long x5), (7, .long x7), (9, .long x9), (11, .long x11), (13, .long x13), (15, .long x15), (17, .long x17), (19, .int x19), (20, .int x20), (21, .int x21)]) : W p l e (RM 4 110 0 0) s m args below meth c H locs 0 0 (MQ below (PQ (EM D aC ad hz) (Rg ad) none) args s 0 0 (Rg ad)) (F0 m 32 ls []) := by
  unfold fX12_reckons_32F at hf
  refine lv_iload b.1 b.2.1 dX12_reckons_32 (lv_at hl 13 rfl) ?_
  refine lv_aload_n b.1 b.2.1 dX12_reckons_34 rfl (lv_at hl 0 rfl) ?_
  refine gM_350 b hE dX12_reckons_35 ?_
  refine lv_icmp_ge (tgt := 407) b.1 b.2.1 dX12_reckons_38 (by decide) (fun c69 => ?_) (fun c69 => ?_)
  · have hf := oI_t c69 hf
    refine lv_iload b.1 b.2.1 dX12_reckons_407 (lv_at hl 12 rfl) ?_
    refine lv_if_ne (tgt := 446) b.1 b.2.1 dX12_reckons_409 (by decide) (fun c70 => ?_) (fun c70 => ?_)
    · have hf := oI_f c70 hf
      exact wfX12_reckons_446 b hlk hr zs zk  hf hE (lv_sub hl [0, 1, 2, 3, 4, 7, 8, 9, 10, 11, 12] rfl)
    · have hf := oI_t c70 hf
      refine lv_aload_n b.1 b.2.1 dX12_reckons_412 rfl (lv_at hl 0 rfl) ?_
      refine lv_iconst (v := 0) b.1 b.2.1 dX12_reckons_413 (by decide) ?_
      obtain ⟨h71, eh71, hf⟩ := oL_s hf
      refine pM_463 b hE (by decide) eh71 dX12_reckons_414 (fun H locs hE => ?_)
      refine lv_aload_n b.1 b.2.1 dX12_reckons_417 rfl (lv_at hl 0 rfl) ?_
      refine lv_iconst (v := 5) b.1 b.2.1 dX12_reckons_418 (by decide) ?_
      refine lv_lload_n b.1 b.2.1 dX12_reckons_419 rfl (lv_at hl 3 rfl) ?_
      refine lv_lload b.1 b.2.1 dX12_reckons_420 (lv_at hl 4 rfl) ?_
      refine lv_lload b.1 b.2.1 dX12_reckons_422 (lv_at hl 5 rfl) ?_
      refine lv_lload b.1 b.2.1 dX12_reckons_424 (lv_at hl 6 rfl) ?_
      obtain ⟨h73, hc72, hf⟩ := oB_s hf
      refine k_callV0 (C := RX12) b zs zk hE (CX12_join l D aC ad zk hc72) mc_X12_join (in8 41 rfl rfl) mi_X12_join ms_X12_join ini_RX12 ok_X12_join (m_recv b hE) ⟨Nat.le_of_ble_eq_true rfl, Nat.le_of_ble_eq_true rfl⟩ rfl hl.1 rfl (k_room _ (by exact Nat.le_of_ble_eq_true rfl)) ⟨Nat.le_refl _, Nat.le_refl _⟩ dX12_reckons_426 (fun H locs hE => ?_)
      refine lv_aload_n b.1 b.2.1 dX12_reckons_429 rfl (lv_at hl 0 rfl) ?_
      refine gM_463 b hE dX12_reckons_430 ?_
      obtain ⟨y74, ey74, hf⟩ := oL_s hf
      refine k_nmI ey74 ?_
      refine lv_istore (lv' := [(20, .int y74), (0, .ref (ad 116)), (1, .int x1), (2, .int x2), (3, .long x3), (5, .long x5), (7, .long x7), (9, .long x9), (11, .long x11), (13, .long x13), (15, .long x15), (17, .long x17), (19, .int x19), (21, .int x21)]) b.1 b.2.1 dX12_reckons_433 hl (by decide) rfl (fun ls hl => ?_)
      have hl := lv_sub (l' := [(20, .int y74), (0, .ref (ad 116)), (1, .int x1), (2, .int x2), (11, .long x11), (13, .long x13), (15, .long x15), (17, .long x17), (19, .int x19)]) hl [0, 1, 2, 3, 8, 9, 10, 11, 12] rfl
      refine lv_aload_n b.1 b.2.1 dX12_reckons_435 rfl (lv_at hl 1 rfl) ?_
      refine gM_452 b hE dX12_reckons_436 ?_
      obtain ⟨y75, ey75, hf⟩ := oL_s hf
      refine k_nmL ey75 ?_
      refine lv_lstore_n (lv' := [(3, .long y75), (20, .int y74), (0, .ref (ad 116)), (1, .int x1), (2, .int x2), (11, .long x11), (13, .long x13), (15, .long x15), (17, .long x17), (19, .int x19)]) b.1 b.2.1 dX12_reckons_439 rfl hl (by decide) rfl (fun ls hl => ?_)
      refine lv_aload_n b.1 b.2.1 dX12_reckons_440 rfl (lv_at hl 2 rfl) ?_
      refine gM_456 b hE dX12_reckons_441 ?_
      obtain ⟨y76, ey76, hf⟩ := oL_s hf
      refine k_nmL ey76 ?_
      refine lv_lstore (lv' := [(5, .long y76), (3, .long y75), (20, .int y74), (0, .ref (ad 116)), (1, .int x1), (2, .int x2), (11, .long x11), (13, .long x13), (15, .long x15), (17, .long x17), (19, .int x19)]) b.1 b.2.1 dX12_reckons_444 hl (by decide) rfl (fun ls hl => ?_)
      exact wfX12_reckons_446 b hlk hr zs zk  hf hE (lv_sub hl [3, 4, 5, 1, 0, 6, 7, 8, 9, 10, 2] rfl)
  · have hf := oI_f c69 hf
    refine lv_aload_n b.1 b.2.1 dX12_reckons_41 rfl (lv_at hl 0 rfl) ?_
    refine gM_85 b hE dX12_reckons_42 ?_
    refine lv_iload b.1 b.2.1 dX12_reckons_45 (lv_at hl 13 rfl) ?_
    obtain ⟨g77, hf⟩ := oC_s hf
    refine m_iald b hE rfl rfl g77 dX12_reckons_47 ?_
    refine lv_iconst (v := 2) b.1 b.2.1 dX12_reckons_48 (by decide) ?_
    refine lv_icmp_ne (tgt := 401) b.1 b.2.1 dX12_reckons_49 (by decide) (fun c78 => ?_) (fun c78 => ?_)
    · have hf := oI_f c78 hf
      exact wfX12_reckons_401 b hlk hr zs zk H32 hf hE (lv_sub hl [0, 1, 2, 3, 4, 5, 6, 7, 8, 9, 10, 11, 12, 13] rfl)
    · have hf := oI_t c78 hf
      refine lv_aload_n b.1 b.2.1 dX12_reckons_52 rfl (lv_at hl 0 rfl) ?_
      refine gM_97 b hE dX12_reckons_53 ?_
      refine lv_iload b.1 b.2.1 dX12_reckons_56 (lv_at hl 13 rfl) ?_
      obtain ⟨g79, hf⟩ := oC_s hf
      refine m_iald b hE rfl rfl g79 dX12_reckons_58 ?_
      refine lv_iload_n b.1 b.2.1 dX12_reckons_59 rfl (lv_at hl 1 rfl) ?_
      refine lv_icmp_eq (tgt := 66) b.1 b.2.1 dX12_reckons_60 (by decide) (fun c80 => ?_) (fun c80 => ?_)
      · have hf := oI_t c80 hf
        refine lv_iconst (v := 0) b.1 b.2.1 dX12_reckons_66 (by decide) ?_
        refine lv_istore (lv' := [(22, .int 0), (0, .ref (ad 116)), (1, .int x1), (2, .int x2), (3, .long x3), (5, .long x5), (7, .long x7), (9, .long x9), (11, .long x11), (13, .long x13), (15, .long x15), (17, .long x17), (19, .int x19), (20, .int x20), (21, .int x21)]) b.1 b.2.1 dX12_reckons_67 hl (by decide) rfl (fun ls hl => ?_)
        exact wfX12_reckons_69 b hlk hr zs zk H32 FU h x1 x2 x3 x5 x7 x9 x11 x13 x15 x17 x19 x20 x21 0 _ _ _ hf hE (lv_sub hl [1, 2, 3, 4, 5, 6, 7, 8, 9, 10, 11, 12, 13, 14, 0] rfl)
      · have hf := oI_f c80 hf
        refine lv_goto (tgt := 401) b.1 b.2.1 dX12_reckons_63 (by decide) ?_
        exact wfX12_reckons_401 b hlk hr zs zk H32 hf hE (lv_sub hl [0, 1, 2, 3, 4, 5, 6, 7, 8, 9, 10, 11, 12, 13] rfl)
def fX12_reckons_32  : Nat → MS → Int32 → Int32 → Int64 → Int64 → Int64 → Int64 → Int64 → Int64 → Int64 → Int64 → Int32 → Int32 → Int32 → Option (MS)
  | 0 => fun _ _ _ _ _ _ _ _ _ _ _ _ _ _ => none
  | n + 1 => fX12_reckons_32F  (fX12_reckons_32  n)
set_option maxHeartbeats 4000000 in
theorem wfX12_reckons_32 {args : Array Value} (b : Bd p s m c cX12_reckons 28 RX12 D aC) (hlk : meth.locks = false) (hr : meth.sig.returnType = none) {Z : State → Prop} (zs : Z s) (zk : ZOK Z (Rg ad)) {hz : MS} : ∀ n : Nat, ∀ (h : MS) (x1 : Int32) (x2 : Int32) (x3 : Int64) (x5 : Int64) (x7 : Int64) (x9 : Int64) (x11 : Int64) (x13 : Int64) (x15 : Int64) (x17 : Int64) (x19 : Int32) (x20 : Int32) (x21 : Int32), ∀ (H : Heap) (locs : List Loc) (ls : Array Slot), fX12_reckons_32  n h x1 x2 x3 x5 x7 x9 x11 x13 x15 x17 x19 x20 x21 = some hz → CE (EM D aC ad h) (Rg ad) s H locs → lv_has ls 28 [(0, .ref (ad 116)), (1, .int x1), (2, .int x2), (3, .long x3), (5, .long x5), (7, .long x7), (9, .long x9), (11, .long x11), (13, .long x13), (15, .long x15), (17, .long x17), (19, .int x19), (20, .int x20), (21, .int x21)] → W p l e (RM 4 110 0 0) s m args below meth c H locs 0 0 (MQ below (PQ (EM D aC ad hz) (Rg ad) none) args s 0 0 (Rg ad)) (F0 m 32 ls []) := by
  intro n
  induction n with
  | zero =>
    intro h x1 x2 x3 x5 x7 x9 x11 x13 x15 x17 x19 x20 x21 H locs ls hf
    have hf : (none : Option (MS)) = some _ := hf
    cases hf
  | succ n ih =>
    intro h x1 x2 x3 x5 x7 x9 x11 x13 x15 x17 x19 x20 x21 H locs ls hf hE hl
    exact wfX12_reckons_32F b hlk hr zs zk  ih hf hE hl
def fX12_reckons_0  (h : MS) (x1 : Int32) (x2 : Int32) : Option (MS) :=
  fX12_reckons_32  FU h x1 x2 0 1 1 1 0 0 0 0 0 0 0
set_option maxHeartbeats 4000000 in
theorem wfX12_reckons_0 {args : Array Value} (b : Bd p s m c cX12_reckons 28 RX12 D aC) (hlk : meth.locks = false) (hr : meth.sig.returnType = none) {Z : State → Prop} (zs : Z s) (zk : ZOK Z (Rg ad)) {hz : MS} {h : MS} {x1 : Int32} {x2 : Int32}  {H : Heap} {locs : List Loc} {ls : Array Slot} (hf : fX12_reckons_0 h x1 x2 = some hz) (hE : CE (EM D aC ad h) (Rg ad) s H locs) (hl : lv_has ls 28 [(0, .ref (ad 116)), (1, .int x1), (2, .int x2)]) : W p l e (RM 4 110 0 0) s m args below meth c H locs 0 0 (MQ below (PQ (EM D aC ad hz) (Rg ad) none) args s 0 0 (Rg ad)) (F0 m 0 ls []) := by
  unfold fX12_reckons_0 at hf
  refine lv_lconst (v := 0) b.1 b.2.1 dX12_reckons_0 rfl ?_
  refine lv_lstore_n (lv' := [(3, .long 0), (0, .ref (ad 116)), (1, .int x1), (2, .int x2)]) b.1 b.2.1 dX12_reckons_1 rfl hl (by decide) rfl (fun ls hl => ?_)
  refine lv_lconst (v := 1) b.1 b.2.1 dX12_reckons_2 rfl ?_
  refine lv_lstore (lv' := [(5, .long 1), (3, .long 0), (0, .ref (ad 116)), (1, .int x1), (2, .int x2)]) b.1 b.2.1 dX12_reckons_3 hl (by decide) rfl (fun ls hl => ?_)
  refine lv_lconst (v := 1) b.1 b.2.1 dX12_reckons_5 rfl ?_
  refine lv_lstore (lv' := [(7, .long 1), (5, .long 1), (3, .long 0), (0, .ref (ad 116)), (1, .int x1), (2, .int x2)]) b.1 b.2.1 dX12_reckons_6 hl (by decide) rfl (fun ls hl => ?_)
  refine lv_lconst (v := 1) b.1 b.2.1 dX12_reckons_8 rfl ?_
  refine lv_lstore (lv' := [(9, .long 1), (7, .long 1), (5, .long 1), (3, .long 0), (0, .ref (ad 116)), (1, .int x1), (2, .int x2)]) b.1 b.2.1 dX12_reckons_9 hl (by decide) rfl (fun ls hl => ?_)
  refine lv_lconst (v := 0) b.1 b.2.1 dX12_reckons_11 rfl ?_
  refine lv_lstore (lv' := [(11, .long 0), (9, .long 1), (7, .long 1), (5, .long 1), (3, .long 0), (0, .ref (ad 116)), (1, .int x1), (2, .int x2)]) b.1 b.2.1 dX12_reckons_12 hl (by decide) rfl (fun ls hl => ?_)
  refine lv_lconst (v := 0) b.1 b.2.1 dX12_reckons_14 rfl ?_
  refine lv_lstore (lv' := [(13, .long 0), (11, .long 0), (9, .long 1), (7, .long 1), (5, .long 1), (3, .long 0), (0, .ref (ad 116)), (1, .int x1), (2, .int x2)]) b.1 b.2.1 dX12_reckons_15 hl (by decide) rfl (fun ls hl => ?_)
  refine lv_lconst (v := 0) b.1 b.2.1 dX12_reckons_17 rfl ?_
  refine lv_lstore (lv' := [(15, .long 0), (13, .long 0), (11, .long 0), (9, .long 1), (7, .long 1), (5, .long 1), (3, .long 0), (0, .ref (ad 116)), (1, .int x1), (2, .int x2)]) b.1 b.2.1 dX12_reckons_18 hl (by decide) rfl (fun ls hl => ?_)
  refine lv_lconst (v := 0) b.1 b.2.1 dX12_reckons_20 rfl ?_
  refine lv_lstore (lv' := [(17, .long 0), (15, .long 0), (13, .long 0), (11, .long 0), (9, .long 1), (7, .long 1), (5, .long 1), (3, .long 0), (0, .ref (ad 116)), (1, .int x1), (2, .int x2)]) b.1 b.2.1 dX12_reckons_21 hl (by decide) rfl (fun ls hl => ?_)
  refine lv_iconst (v := 0) b.1 b.2.1 dX12_reckons_23 (by decide) ?_
  refine lv_istore (lv' := [(19, .int 0), (17, .long 0), (15, .long 0), (13, .long 0), (11, .long 0), (9, .long 1), (7, .long 1), (5, .long 1), (3, .long 0), (0, .ref (ad 116)), (1, .int x1), (2, .int x2)]) b.1 b.2.1 dX12_reckons_24 hl (by decide) rfl (fun ls hl => ?_)
  refine lv_iconst (v := 0) b.1 b.2.1 dX12_reckons_26 (by decide) ?_
  refine lv_istore (lv' := [(20, .int 0), (19, .int 0), (17, .long 0), (15, .long 0), (13, .long 0), (11, .long 0), (9, .long 1), (7, .long 1), (5, .long 1), (3, .long 0), (0, .ref (ad 116)), (1, .int x1), (2, .int x2)]) b.1 b.2.1 dX12_reckons_27 hl (by decide) rfl (fun ls hl => ?_)
  refine lv_iconst (v := 0) b.1 b.2.1 dX12_reckons_29 (by decide) ?_
  refine lv_istore (lv' := [(21, .int 0), (20, .int 0), (19, .int 0), (17, .long 0), (15, .long 0), (13, .long 0), (11, .long 0), (9, .long 1), (7, .long 1), (5, .long 1), (3, .long 0), (0, .ref (ad 116)), (1, .int x1), (2, .int x2)]) b.1 b.2.1 dX12_reckons_30 hl (by decide) rfl (fun ls hl => ?_)
  exact wfX12_reckons_32 b hlk hr zs zk  FU h x1 x2 0 1 1 1 0 0 0 0 0 0 0 _ _ _ hf hE (lv_sub hl [11, 12, 13, 10, 9, 8, 7, 6, 5, 4, 3, 2, 1, 0] rfl)
def fX12_reckons (h : MS) (x1 : Int32) (x2 : Int32) : Option (MS) := fX12_reckons_0 h x1 x2
set_option maxHeartbeats 4000000 in
theorem CX12_reckons (l : Launch) (D : va_G) (aC : Nat → ClassId) (ad : Nat → Nat) {Z : State → Prop} (zk : ZOK Z (Rg ad)) {h : MS} {x1 : Int32} {x2 : Int32} {hz : MS} (hf : fX12_reckons h x1 x2 = some hz) : CM l D aC Z yX12_reckons cX12_reckons 28 (none) 4 110 0 0 (EM D aC ad h) [.ref (ad 116), .int x1, .int x2] (EM D aC ad hz) none (Rg ad) := by
  refine CM.of rfl ?_
  intro p e s m below meth c b hr hlk hin2 zs hE
  refine k_ent (Nat.le_of_ble_eq_true rfl) (fun ls hl => ?_)
  exact wfX12_reckons_0 b hlk hr zs zk hf hE (lv_sub hl [0, 1, 2] rfl)
end
