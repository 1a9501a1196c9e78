section
variable {p : Program} {l : Launch} {e : Env} {s : State} {m : MethodId} {below : List Frame} {meth : Method} {c : Code} {D : va_G} {aC : Nat → ClassId} {ad : Nat → Nat}
theorem dX12_tellRule_0 : decode cX12_tellRule 0 = .ok (.aload_n 0, 1) := by decide +kernel
theorem dX12_tellRule_1 : decode cX12_tellRule 1 = .ok (.getfield 20, 3) := by decide +kernel
theorem dX12_tellRule_4 : decode cX12_tellRule 4 = .ok (.aload_n 0, 1) := by decide +kernel
theorem dX12_tellRule_5 : decode cX12_tellRule 5 = .ok (.getfield 297, 3) := by decide +kernel
theorem dX12_tellRule_8 : decode cX12_tellRule 8 = .ok (.iaload, 1) := by decide +kernel
theorem dX12_tellRule_9 : decode cX12_tellRule 9 = .ok (.bipush 29, 2) := by decide +kernel
theorem dX12_tellRule_11 : decode cX12_tellRule 11 = .ok (.isub, 1) := by decide +kernel
theorem dX12_tellRule_12 : decode cX12_tellRule 12 = .ok (.istore_n 2, 1) := by decide +kernel
theorem dX12_tellRule_13 : decode cX12_tellRule 13 = .ok (.aload_n 0, 1) := by decide +kernel
theorem dX12_tellRule_14 : decode cX12_tellRule 14 = .ok (.invokevirtual 315, 3) := by decide +kernel
theorem dX12_tellRule_17 : decode cX12_tellRule 17 = .ok (.aload_n 0, 1) := by decide +kernel
theorem dX12_tellRule_18 : decode cX12_tellRule 18 = .ok (.aload_n 0, 1) := by decide +kernel
theorem dX12_tellRule_19 : decode cX12_tellRule 19 = .ok (.getfield 79, 3) := by decide +kernel
theorem dX12_tellRule_22 : decode cX12_tellRule 22 = .ok (.aload_n 0, 1) := by decide +kernel
theorem dX12_tellRule_23 : decode cX12_tellRule 23 = .ok (.getfield 350, 3) := by decide +kernel
theorem dX12_tellRule_26 : decode cX12_tellRule 26 = .ok (.bipush 30, 2) := by decide +kernel
theorem dX12_tellRule_28 : decode cX12_tellRule 28 = .ok (.invokevirtual 365, 3) := by decide +kernel
theorem dX12_tellRule_31 : decode cX12_tellRule 31 = .ok (.istore_n 3, 1) := by decide +kernel
theorem dX12_tellRule_32 : decode cX12_tellRule 32 = .ok (.aload_n 0, 1) := by decide +kernel
theorem dX12_tellRule_33 : decode cX12_tellRule 33 = .ok (.bipush 6, 2) := by decide +kernel
theorem dX12_tellRule_35 : decode cX12_tellRule 35 = .ok (.invokevirtual 318, 3) := by decide +kernel
theorem dX12_tellRule_38 : decode cX12_tellRule 38 = .ok (.aload_n 0, 1) := by decide +kernel
theorem dX12_tellRule_39 : decode cX12_tellRule 39 = .ok (.getfield 294, 3) := by decide +kernel
theorem dX12_tellRule_42 : decode cX12_tellRule 42 = .ok (.ifCond .le 4, 3) := by decide +kernel
theorem dX12_tellRule_45 : decode cX12_tellRule 45 = .ok (.return_, 1) := by decide +kernel
theorem dX12_tellRule_46 : decode cX12_tellRule 46 = .ok (.aload_n 0, 1) := by decide +kernel
theorem dX12_tellRule_47 : decode cX12_tellRule 47 = .ok (.aload_n 0, 1) := by decide +kernel
theorem dX12_tellRule_48 : decode cX12_tellRule 48 = .ok (.getfield 350, 3) := by decide +kernel
theorem dX12_tellRule_51 : decode cX12_tellRule 51 = .ok (.putfield 384, 3) := by decide +kernel
theorem dX12_tellRule_54 : decode cX12_tellRule 54 = .ok (.aload_n 0, 1) := by decide +kernel
theorem dX12_tellRule_55 : decode cX12_tellRule 55 = .ok (.getfield 82, 3) := by decide +kernel
theorem dX12_tellRule_58 : decode cX12_tellRule 58 = .ok (.aload_n 0, 1) := by decide +kernel
theorem dX12_tellRule_59 : decode cX12_tellRule 59 = .ok (.getfield 384, 3) := by decide +kernel
theorem dX12_tellRule_62 : decode cX12_tellRule 62 = .ok (.iload_n 1, 1) := by decide +kernel
theorem dX12_tellRule_63 : decode cX12_tellRule 63 = .ok (.iastore, 1) := by decide +kernel
theorem dX12_tellRule_64 : decode cX12_tellRule 64 = .ok (.aload_n 0, 1) := by decide +kernel
theorem dX12_tellRule_65 : decode cX12_tellRule 65 = .ok (.getfield 85, 3) := by decide +kernel
theorem dX12_tellRule_68 : decode cX12_tellRule 68 = .ok (.aload_n 0, 1) := by decide +kernel
theorem dX12_tellRule_69 : decode cX12_tellRule 69 = .ok (.getfield 384, 3) := by decide +kernel
theorem dX12_tellRule_72 : decode cX12_tellRule 72 = .ok (.iload_n 2, 1) := by decide +kernel
theorem dX12_tellRule_73 : decode cX12_tellRule 73 = .ok (.iastore, 1) := by decide +kernel
theorem dX12_tellRule_74 : decode cX12_tellRule 74 = .ok (.aload_n 0, 1) := by decide +kernel
theorem dX12_tellRule_75 : decode cX12_tellRule 75 = .ok (.getfield 88, 3) := by decide +kernel
theorem dX12_tellRule_78 : decode cX12_tellRule 78 = .ok (.aload_n 0, 1) := by decide +kernel
theorem dX12_tellRule_79 : decode cX12_tellRule 79 = .ok (.getfield 384, 3) := by decide +kernel
theorem dX12_tellRule_82 : decode cX12_tellRule 82 = .ok (.iconst 0, 1) := by decide +kernel
theorem dX12_tellRule_83 : decode cX12_tellRule 83 = .ok (.iastore, 1) := by decide +kernel
theorem dX12_tellRule_84 : decode cX12_tellRule 84 = .ok (.aload_n 0, 1) := by decide +kernel
theorem dX12_tellRule_85 : decode cX12_tellRule 85 = .ok (.getfield 91, 3) := by decide +kernel
theorem dX12_tellRule_88 : decode cX12_tellRule 88 = .ok (.aload_n 0, 1) := by decide +kernel
theorem dX12_tellRule_89 : decode cX12_tellRule 89 = .ok (.getfield 384, 3) := by decide +kernel
theorem dX12_tellRule_92 : decode cX12_tellRule 92 = .ok (.iconst 0, 1) := by decide +kernel
theorem dX12_tellRule_93 : decode cX12_tellRule 93 = .ok (.iastore, 1) := by decide +kernel
theorem dX12_tellRule_94 : decode cX12_tellRule 94 = .ok (.aload_n 0, 1) := by decide +kernel
theorem dX12_tellRule_95 : decode cX12_tellRule 95 = .ok (.bipush 15, 2) := by decide +kernel
theorem dX12_tellRule_97 : decode cX12_tellRule 97 = .ok (.invokevirtual 312, 3) := by decide +kernel
theorem dX12_tellRule_100 : decode cX12_tellRule 100 = .ok (.ifCond .ne 42, 3) := by decide +kernel
theorem dX12_tellRule_103 : decode cX12_tellRule 103 = .ok (.iconst 1, 1) := by decide +kernel
theorem dX12_tellRule_104 : decode cX12_tellRule 104 = .ok (.istore 4, 2) := by decide +kernel
theorem dX12_tellRule_106 : decode cX12_tellRule 106 = .ok (.iload 4, 2) := by decide +kernel
theorem dX12_tellRule_108 : decode cX12_tellRule 108 = .ok (.ifCond .eq 34, 3) := by decide +kernel
theorem dX12_tellRule_111 : decode cX12_tellRule 111 = .ok (.aload_n 0, 1) := by decide +kernel
theorem dX12_tellRule_112 : decode cX12_tellRule 112 = .ok (.getfield 294, 3) := by decide +kernel
theorem dX12_tellRule_115 : decode cX12_tellRule 115 = .ok (.ifCond .ne 27, 3) := by decide +kernel
theorem dX12_tellRule_118 : decode cX12_tellRule 118 = .ok (.aload_n 0, 1) := by decide +kernel
theorem dX12_tellRule_119 : decode cX12_tellRule 119 = .ok (.invokevirtual 387, 3) := by decide +kernel
theorem dX12_tellRule_122 : decode cX12_tellRule 122 = .ok (.aload_n 0, 1) := by decide +kernel
theorem dX12_tellRule_123 : decode cX12_tellRule 123 = .ok (.bipush 7, 2) := by decide +kernel
theorem dX12_tellRule_125 : decode cX12_tellRule 125 = .ok (.invokevirtual 312, 3) := by decide +kernel
theorem dX12_tellRule_128 : decode cX12_tellRule 128 = .ok (.istore 4, 2) := by decide +kernel
theorem dX12_tellRule_130 : decode cX12_tellRule 130 = .ok (.iload 4, 2) := by decide +kernel
theorem dX12_tellRule_132 : decode cX12_tellRule 132 = .ok (.ifCond .eq (-26), 3) := by decide +kernel
theorem dX12_tellRule_135 : decode cX12_tellRule 135 = .ok (.aload_n 0, 1) := by decide +kernel
theorem dX12_tellRule_136 : decode cX12_tellRule 136 = .ok (.invokevirtual 315, 3) := by decide +kernel
theorem dX12_tellRule_139 : decode cX12_tellRule 139 = .ok (.goto (-33), 3) := by decide +kernel
theorem dX12_tellRule_142 : decode cX12_tellRule 142 = .ok (.aload_n 0, 1) := by decide +kernel
theorem dX12_tellRule_143 : decode cX12_tellRule 143 = .ok (.bipush 15, 2) := by decide +kernel
theorem dX12_tellRule_145 : decode cX12_tellRule 145 = .ok (.invokevirtual 318, 3) := by decide +kernel
theorem dX12_tellRule_148 : decode cX12_tellRule 148 = .ok (.iload_n 2, 1) := by decide +kernel
theorem dX12_tellRule_149 : decode cX12_tellRule 149 = .ok (.iconst 2, 1) := by decide +kernel
theorem dX12_tellRule_150 : decode cX12_tellRule 150 = .ok (.if_icmp .ne 204, 3) := by decide +kernel
theorem dX12_tellRule_153 : decode cX12_tellRule 153 = .ok (.aload_n 0, 1) := by decide +kernel
theorem dX12_tellRule_154 : decode cX12_tellRule 154 = .ok (.getfield 297, 3) := by decide +kernel
theorem dX12_tellRule_157 : decode cX12_tellRule 157 = .ok (.istore 4, 2) := by decide +kernel
theorem dX12_tellRule_159 : decode cX12_tellRule 159 = .ok (.aload_n 0, 1) := by decide +kernel
theorem dX12_tellRule_160 : decode cX12_tellRule 160 = .ok (.iconst 1, 1) := by decide +kernel
theorem dX12_tellRule_161 : decode cX12_tellRule 161 = .ok (.invokevirtual 318, 3) := by decide +kernel
theorem dX12_tellRule_164 : decode cX12_tellRule 164 = .ok (.aload_n 0, 1) := by decide +kernel
theorem dX12_tellRule_165 : decode cX12_tellRule 165 = .ok (.getfield 294, 3) := by decide +kernel
theorem dX12_tellRule_168 : decode cX12_tellRule 168 = .ok (.ifCond .le 4, 3) := by decide +kernel
theorem dX12_tellRule_171 : decode cX12_tellRule 171 = .ok (.return_, 1) := by decide +kernel
theorem dX12_tellRule_172 : decode cX12_tellRule 172 = .ok (.aload_n 0, 1) := by decide +kernel
theorem dX12_tellRule_173 : decode cX12_tellRule 173 = .ok (.getfield 97, 3) := by decide +kernel
theorem dX12_tellRule_176 : decode cX12_tellRule 176 = .ok (.aload_n 0, 1) := by decide +kernel
theorem dX12_tellRule_177 : decode cX12_tellRule 177 = .ok (.getfield 384, 3) := by decide +kernel
theorem dX12_tellRule_180 : decode cX12_tellRule 180 = .ok (.aload_n 0, 1) := by decide +kernel
theorem dX12_tellRule_181 : decode cX12_tellRule 181 = .ok (.aload_n 0, 1) := by decide +kernel
theorem dX12_tellRule_182 : decode cX12_tellRule 182 = .ok (.getfield 52, 3) := by decide +kernel
theorem dX12_tellRule_185 : decode cX12_tellRule 185 = .ok (.aload_n 0, 1) := by decide +kernel
theorem dX12_tellRule_186 : decode cX12_tellRule 186 = .ok (.getfield 344, 3) := by decide +kernel
theorem dX12_tellRule_189 : decode cX12_tellRule 189 = .ok (.iload 4, 2) := by decide +kernel
theorem dX12_tellRule_191 : decode cX12_tellRule 191 = .ok (.invokevirtual 374, 3) := by decide +kernel
theorem dX12_tellRule_194 : decode cX12_tellRule 194 = .ok (.iastore, 1) := by decide +kernel
theorem dX12_tellRule_195 : decode cX12_tellRule 195 = .ok (.aload_n 0, 1) := by decide +kernel
theorem dX12_tellRule_196 : decode cX12_tellRule 196 = .ok (.getfield 100, 3) := by decide +kernel
theorem dX12_tellRule_199 : decode cX12_tellRule 199 = .ok (.aload_n 0, 1) := by decide +kernel
theorem dX12_tellRule_200 : decode cX12_tellRule 200 = .ok (.getfield 384, 3) := by decide +kernel
theorem dX12_tellRule_203 : decode cX12_tellRule 203 = .ok (.iconst 1, 1) := by decide +kernel
theorem dX12_tellRule_204 : decode cX12_tellRule 204 = .ok (.bastore, 1) := by decide +kernel
theorem dX12_tellRule_205 : decode cX12_tellRule 205 = .ok (.aload_n 0, 1) := by decide +kernel
theorem dX12_tellRule_206 : decode cX12_tellRule 206 = .ok (.bipush 9, 2) := by decide +kernel
theorem dX12_tellRule_208 : decode cX12_tellRule 208 = .ok (.invokevirtual 318, 3) := by decide +kernel
theorem dX12_tellRule_211 : decode cX12_tellRule 211 = .ok (.aload_n 0, 1) := by decide +kernel
theorem dX12_tellRule_212 : decode cX12_tellRule 212 = .ok (.getfield 104, 3) := by decide +kernel
theorem dX12_tellRule_215 : decode cX12_tellRule 215 = .ok (.aload_n 0, 1) := by decide +kernel
theorem dX12_tellRule_216 : decode cX12_tellRule 216 = .ok (.getfield 384, 3) := by decide +kernel
theorem dX12_tellRule_219 : decode cX12_tellRule 219 = .ok (.aload_n 0, 1) := by decide +kernel
theorem dX12_tellRule_220 : decode cX12_tellRule 220 = .ok (.invokevirtual 390, 3) := by decide +kernel
theorem dX12_tellRule_223 : decode cX12_tellRule 223 = .ok (.iastore, 1) := by decide +kernel
theorem dX12_tellRule_224 : decode cX12_tellRule 224 = .ok (.aload_n 0, 1) := by decide +kernel
theorem dX12_tellRule_225 : decode cX12_tellRule 225 = .ok (.getfield 107, 3) := by decide +kernel
theorem dX12_tellRule_228 : decode cX12_tellRule 228 = .ok (.aload_n 0, 1) := by decide +kernel
theorem dX12_tellRule_229 : decode cX12_tellRule 229 = .ok (.getfield 384, 3) := by decide +kernel
theorem dX12_tellRule_232 : decode cX12_tellRule 232 = .ok (.iconst (-1), 1) := by decide +kernel
theorem dX12_tellRule_233 : decode cX12_tellRule 233 = .ok (.iastore, 1) := by decide +kernel
theorem dX12_tellRule_234 : decode cX12_tellRule 234 = .ok (.aload_n 0, 1) := by decide +kernel
theorem dX12_tellRule_235 : decode cX12_tellRule 235 = .ok (.bipush 10, 2) := by decide +kernel
theorem dX12_tellRule_237 : decode cX12_tellRule 237 = .ok (.invokevirtual 318, 3) := by decide +kernel
theorem dX12_tellRule_240 : decode cX12_tellRule 240 = .ok (.aload_n 0, 1) := by decide +kernel
theorem dX12_tellRule_241 : decode cX12_tellRule 241 = .ok (.bipush 11, 2) := by decide +kernel
theorem dX12_tellRule_243 : decode cX12_tellRule 243 = .ok (.invokevirtual 312, 3) := by decide +kernel
theorem dX12_tellRule_246 : decode cX12_tellRule 246 = .ok (.ifCond .eq 7, 3) := by decide +kernel
theorem dX12_tellRule_249 : decode cX12_tellRule 249 = .ok (.iconst 0, 1) := by decide +kernel
theorem dX12_tellRule_250 : decode cX12_tellRule 250 = .ok (.goto 43, 3) := by decide +kernel
theorem dX12_tellRule_253 : decode cX12_tellRule 253 = .ok (.aload_n 0, 1) := by decide +kernel
theorem dX12_tellRule_254 : decode cX12_tellRule 254 = .ok (.bipush 13, 2) := by decide +kernel
theorem dX12_tellRule_256 : decode cX12_tellRule 256 = .ok (.invokevirtual 312, 3) := by decide +kernel
theorem dX12_tellRule_259 : decode cX12_tellRule 259 = .ok (.ifCond .eq 7, 3) := by decide +kernel
theorem dX12_tellRule_262 : decode cX12_tellRule 262 = .ok (.iconst 1, 1) := by decide +kernel
theorem dX12_tellRule_263 : decode cX12_tellRule 263 = .ok (.goto 30, 3) := by decide +kernel
theorem dX12_tellRule_266 : decode cX12_tellRule 266 = .ok (.aload_n 0, 1) := by decide +kernel
theorem dX12_tellRule_267 : decode cX12_tellRule 267 = .ok (.bipush 36, 2) := by decide +kernel
theorem dX12_tellRule_269 : decode cX12_tellRule 269 = .ok (.invokevirtual 312, 3) := by decide +kernel
theorem dX12_tellRule_272 : decode cX12_tellRule 272 = .ok (.ifCond .eq 7, 3) := by decide +kernel
theorem dX12_tellRule_275 : decode cX12_tellRule 275 = .ok (.iconst 2, 1) := by decide +kernel
theorem dX12_tellRule_276 : decode cX12_tellRule 276 = .ok (.goto 17, 3) := by decide +kernel
theorem dX12_tellRule_279 : decode cX12_tellRule 279 = .ok (.aload_n 0, 1) := by decide +kernel
theorem dX12_tellRule_280 : decode cX12_tellRule 280 = .ok (.bipush 37, 2) := by decide +kernel
theorem dX12_tellRule_282 : decode cX12_tellRule 282 = .ok (.invokevirtual 312, 3) := by decide +kernel
theorem dX12_tellRule_285 : decode cX12_tellRule 285 = .ok (.ifCond .eq 7, 3) := by decide +kernel
theorem dX12_tellRule_288 : decode cX12_tellRule 288 = .ok (.iconst 3, 1) := by decide +kernel
theorem dX12_tellRule_289 : decode cX12_tellRule 289 = .ok (.goto 4, 3) := by decide +kernel
theorem dX12_tellRule_292 : decode cX12_tellRule 292 = .ok (.iconst (-1), 1) := by decide +kernel
theorem dX12_tellRule_293 : decode cX12_tellRule 293 = .ok (.istore 5, 2) := by decide +kernel
theorem dX12_tellRule_295 : decode cX12_tellRule 295 = .ok (.iload 5, 2) := by decide +kernel
theorem dX12_tellRule_297 : decode cX12_tellRule 297 = .ok (.iconst (-1), 1) := by decide +kernel
theorem dX12_tellRule_298 : decode cX12_tellRule 298 = .ok (.if_icmp .ne 8, 3) := by decide +kernel
theorem dX12_tellRule_301 : decode cX12_tellRule 301 = .ok (.aload_n 0, 1) := by decide +kernel
theorem dX12_tellRule_302 : decode cX12_tellRule 302 = .ok (.iconst 1, 1) := by decide +kernel
theorem dX12_tellRule_303 : decode cX12_tellRule 303 = .ok (.invokevirtual 309, 3) := by decide +kernel
theorem dX12_tellRule_306 : decode cX12_tellRule 306 = .ok (.aload_n 0, 1) := by decide +kernel
theorem dX12_tellRule_307 : decode cX12_tellRule 307 = .ok (.getfield 110, 3) := by decide +kernel
theorem dX12_tellRule_310 : decode cX12_tellRule 310 = .ok (.aload_n 0, 1) := by decide +kernel
theorem dX12_tellRule_311 : decode cX12_tellRule 311 = .ok (.getfield 384, 3) := by decide +kernel
theorem dX12_tellRule_314 : decode cX12_tellRule 314 = .ok (.iload 5, 2) := by decide +kernel
theorem dX12_tellRule_316 : decode cX12_tellRule 316 = .ok (.iastore, 1) := by decide +kernel
theorem dX12_tellRule_317 : decode cX12_tellRule 317 = .ok (.aload_n 0, 1) := by decide +kernel
theorem dX12_tellRule_318 : decode cX12_tellRule 318 = .ok (.invokevirtual 315, 3) := by decide +kernel
theorem dX12_tellRule_321 : decode cX12_tellRule 321 = .ok (.aload_n 0, 1) := by decide +kernel
theorem dX12_tellRule_322 : decode cX12_tellRule 322 = .ok (.getfield 113, 3) := by decide +kernel
theorem dX12_tellRule_325 : decode cX12_tellRule 325 = .ok (.aload_n 0, 1) := by decide +kernel
theorem dX12_tellRule_326 : decode cX12_tellRule 326 = .ok (.getfield 384, 3) := by decide +kernel
theorem dX12_tellRule_329 : decode cX12_tellRule 329 = .ok (.aload_n 0, 1) := by decide +kernel
theorem dX12_tellRule_330 : decode cX12_tellRule 330 = .ok (.getfield 356, 3) := by decide +kernel
theorem dX12_tellRule_333 : decode cX12_tellRule 333 = .ok (.iastore, 1) := by decide +kernel
theorem dX12_tellRule_334 : decode cX12_tellRule 334 = .ok (.aload_n 0, 1) := by decide +kernel
theorem dX12_tellRule_335 : decode cX12_tellRule 335 = .ok (.invokevirtual 394, 3) := by decide +kernel
theorem dX12_tellRule_338 : decode cX12_tellRule 338 = .ok (.aload_n 0, 1) := by decide +kernel
theorem dX12_tellRule_339 : decode cX12_tellRule 339 = .ok (.getfield 116, 3) := by decide +kernel
theorem dX12_tellRule_342 : decode cX12_tellRule 342 = .ok (.aload_n 0, 1) := by decide +kernel
theorem dX12_tellRule_343 : decode cX12_tellRule 343 = .ok (.getfield 384, 3) := by decide +kernel
theorem dX12_tellRule_346 : decode cX12_tellRule 346 = .ok (.aload_n 0, 1) := by decide +kernel
theorem dX12_tellRule_347 : decode cX12_tellRule 347 = .ok (.getfield 356, 3) := by decide +kernel
theorem dX12_tellRule_350 : decode cX12_tellRule 350 = .ok (.iastore, 1) := by decide +kernel
theorem dX12_tellRule_351 : decode cX12_tellRule 351 = .ok (.goto 59, 3) := by decide +kernel
theorem dX12_tellRule_354 : decode cX12_tellRule 354 = .ok (.aload_n 0, 1) := by decide +kernel
theorem dX12_tellRule_355 : decode cX12_tellRule 355 = .ok (.invokevirtual 397, 3) := by decide +kernel
theorem dX12_tellRule_358 : decode cX12_tellRule 358 = .ok (.aload_n 0, 1) := by decide +kernel
theorem dX12_tellRule_359 : decode cX12_tellRule 359 = .ok (.getfield 97, 3) := by decide +kernel
theorem dX12_tellRule_362 : decode cX12_tellRule 362 = .ok (.aload_n 0, 1) := by decide +kernel
theorem dX12_tellRule_363 : decode cX12_tellRule 363 = .ok (.getfield 384, 3) := by decide +kernel
theorem dX12_tellRule_366 : decode cX12_tellRule 366 = .ok (.aload_n 0, 1) := by decide +kernel
theorem dX12_tellRule_367 : decode cX12_tellRule 367 = .ok (.getfield 400, 3) := by decide +kernel
theorem dX12_tellRule_370 : decode cX12_tellRule 370 = .ok (.iastore, 1) := by decide +kernel
theorem dX12_tellRule_371 : decode cX12_tellRule 371 = .ok (.aload_n 0, 1) := by decide +kernel
theorem dX12_tellRule_372 : decode cX12_tellRule 372 = .ok (.getfield 100, 3) := by decide +kernel
theorem dX12_tellRule_375 : decode cX12_tellRule 375 = .ok (.aload_n 0, 1) := by decide +kernel
theorem dX12_tellRule_376 : decode cX12_tellRule 376 = .ok (.getfield 384, 3) := by decide +kernel
theorem dX12_tellRule_379 : decode cX12_tellRule 379 = .ok (.aload_n 0, 1) := by decide +kernel
theorem dX12_tellRule_380 : decode cX12_tellRule 380 = .ok (.getfield 403, 3) := by decide +kernel
theorem dX12_tellRule_383 : decode cX12_tellRule 383 = .ok (.bastore, 1) := by decide +kernel
theorem dX12_tellRule_384 : decode cX12_tellRule 384 = .ok (.aload_n 0, 1) := by decide +kernel
theorem dX12_tellRule_385 : decode cX12_tellRule 385 = .ok (.getfield 104, 3) := by decide +kernel
theorem dX12_tellRule_388 : decode cX12_tellRule 388 = .ok (.aload_n 0, 1) := by decide +kernel
theorem dX12_tellRule_389 : decode cX12_tellRule 389 = .ok (.getfield 384, 3) := by decide +kernel
theorem dX12_tellRule_392 : decode cX12_tellRule 392 = .ok (.aload_n 0, 1) := by decide +kernel
theorem dX12_tellRule_393 : decode cX12_tellRule 393 = .ok (.getfield 407, 3) := by decide +kernel
theorem dX12_tellRule_396 : decode cX12_tellRule 396 = .ok (.iastore, 1) := by decide +kernel
theorem dX12_tellRule_397 : decode cX12_tellRule 397 = .ok (.aload_n 0, 1) := by decide +kernel
theorem dX12_tellRule_398 : decode cX12_tellRule 398 = .ok (.getfield 107, 3) := by decide +kernel
theorem dX12_tellRule_401 : decode cX12_tellRule 401 = .ok (.aload_n 0, 1) := by decide +kernel
theorem dX12_tellRule_402 : decode cX12_tellRule 402 = .ok (.getfield 384, 3) := by decide +kernel
theorem dX12_tellRule_405 : decode cX12_tellRule 405 = .ok (.aload_n 0, 1) := by decide +kernel
theorem dX12_tellRule_406 : decode cX12_tellRule 406 = .ok (.getfield 410, 3) := by decide +kernel
theorem dX12_tellRule_409 : decode cX12_tellRule 409 = .ok (.iastore, 1) := by decide +kernel
theorem dX12_tellRule_410 : decode cX12_tellRule 410 = .ok (.aload_n 0, 1) := by decide +kernel
theorem dX12_tellRule_411 : decode cX12_tellRule 411 = .ok (.iconst 5, 1) := by decide +kernel
theorem dX12_tellRule_412 : decode cX12_tellRule 412 = .ok (.invokevirtual 318, 3) := by decide +kernel
theorem dX12_tellRule_415 : decode cX12_tellRule 415 = .ok (.aload_n 0, 1) := by decide +kernel
theorem dX12_tellRule_416 : decode cX12_tellRule 416 = .ok (.getfield 294, 3) := by decide +kernel
theorem dX12_tellRule_419 : decode cX12_tellRule 419 = .ok (.ifCond .ne 13, 3) := by decide +kernel
theorem dX12_tellRule_422 : decode cX12_tellRule 422 = .ok (.aload_n 0, 1) := by decide +kernel
theorem dX12_tellRule_423 : decode cX12_tellRule 423 = .ok (.dup, 1) := by decide +kernel
theorem dX12_tellRule_424 : decode cX12_tellRule 424 = .ok (.getfield 350, 3) := by decide +kernel
theorem dX12_tellRule_427 : decode cX12_tellRule 427 = .ok (.iconst 1, 1) := by decide +kernel
theorem dX12_tellRule_428 : decode cX12_tellRule 428 = .ok (.iadd, 1) := by decide +kernel
theorem dX12_tellRule_429 : decode cX12_tellRule 429 = .ok (.putfield 350, 3) := by decide +kernel
theorem dX12_tellRule_432 : decode cX12_tellRule 432 = .ok (.return_, 1) := by decide +kernel
def fX12_tellRule_410  (h : MS) : Option (MS) :=
  oB (fX12_must h 5) (fun h2 => if (mI h2 13) = 0 then (oL (mSI h2 22 ((mI h2 22) + 1)) (fun h4 => some (h4))) else (some (h2)))
set_option maxHeartbeats 4000000 in
theorem wfX12_tellRule_410 {args : Array Value} (b : Bd p s m c cX12_tellRule 6 RX12 D aC) (hlk : meth.locks = false) (hr : meth.sig.returnType = none) {Z : State → Prop} (zs : Z s) (zk : ZOK Z (Rg ad)) {hz : MS} {h : MS}  {H : Heap} {locs : List Loc} {ls : Array Slot} (hf : fX12_tellRule_410 h = some hz) (hE : CE (EM D aC ad h) (Rg ad) s H locs) (hl : lv_has ls 6 [(0, .ref (ad 116))]) : W p l e (RM 7 152 0 0) s m args below meth c H locs 0 0 (MQ below (PQ (EM D aC ad hz) (Rg ad) none) args s 0 0 (Rg ad)) (F0 m 410 ls []) := by
  unfold fX12_tellRule_410 at hf
  refine lv_aload_n b.1 b.2.1 dX12_tellRule_410 rfl (lv_at hl 0 rfl) ?_
  refine lv_iconst (v := 5) b.1 b.2.1 dX12_tellRule_411 (by decide) ?_
  obtain ⟨h2, hc1, hf⟩ := oB_s hf
  refine k_callV0 (C := RX12) b zs zk hE (CX12_must l D aC ad zk hc1) mc_X12_must (in7 129 rfl rfl) mi_X12_must ms_X12_must ini_RX12 ok_X12_must (m_recv b hE) ⟨Nat.le_of_ble_eq_true rfl, Nat.le_of_ble_eq_true rfl⟩ rfl hl.1 rfl (k_room _ (by exact Nat.le_of_ble_eq_true rfl)) ⟨Nat.le_refl _, Nat.le_refl _⟩ dX12_tellRule_412 (fun H locs hE => ?_)
  refine lv_aload_n b.1 b.2.1 dX12_tellRule_415 rfl (lv_at hl 0 rfl) ?_
  refine gM_294 b hE dX12_tellRule_416 ?_
  refine lv_if_ne (tgt := 432) b.1 b.2.1 dX12_tellRule_419 (by decide) (fun c3 => ?_) (fun c3 => ?_)
  · have hf := oI_f c3 hf
    cases hf
    exact k_vret b hlk hr hE (Nat.le_refl _) (Nat.le_refl _) dX12_tellRule_432
  · have hf := oI_t c3 hf
    refine lv_aload_n b.1 b.2.1 dX12_tellRule_422 rfl (lv_at hl 0 rfl) ?_
    refine lv_dup b.1 b.2.1 dX12_tellRule_423 rfl ?_
    refine gM_350 b hE dX12_tellRule_424 ?_
    refine lv_iconst (v := 1) b.1 b.2.1 dX12_tellRule_427 (by decide) ?_
    refine lv_iadd b.1 b.2.1 dX12_tellRule_428 ?_
    obtain ⟨h4, eh4, hf⟩ := oL_s hf
    refine pM_350 b hE eh4 dX12_tellRule_429 (fun H locs hE => ?_)
    cases hf
    exact k_vret b hlk hr hE (Nat.le_refl _) (Nat.le_refl _) dX12_tellRule_432
def fX12_tellRule_306  (h : MS) (x5 : Int32) : Option (MS) :=
  oC (ix (mI h 65) (mlen 48)) (oL (mSA h 48 (Int32.toNatClampNeg (mI h 65)) x5) (fun h6 => oB (fX12_next h6 ) (fun h8 => oC (ix (mI h8 65) (mlen 49)) (oL (mSA h8 49 (Int32.toNatClampNeg (mI h8 65)) (mI h8 24)) (fun h10 => oB (fX12_expression h10 ) (fun h12 => oC (ix (mI h12 65) (mlen 50)) (oL (mSA h12 50 (Int32.toNatClampNeg (mI h12 65)) (mI h12 24)) (fun h14 => fX12_tellRule_410  h14))))))))
set_option maxHeartbeats 4000000 in
theorem wfX12_tellRule_306 {args : Array Value} (b : Bd p s m c cX12_tellRule 6 RX12 D aC) (hlk : meth.locks = false) (hr : meth.sig.returnType = none) {Z : State → Prop} (zs : Z s) (zk : ZOK Z (Rg ad)) {hz : MS} {h : MS} {x5 : Int32}  {H : Heap} {locs : List Loc} {ls : Array Slot} (hf : fX12_tellRule_306 h x5 = some hz) (hE : CE (EM D aC ad h) (Rg ad) s H locs) (hl : lv_has ls 6 [(0, .ref (ad 116)), (5, .int x5)]) : W p l e (RM 7 152 0 0) s m args below meth c H locs 0 0 (MQ below (PQ (EM D aC ad hz) (Rg ad) none) args s 0 0 (Rg ad)) (F0 m 306 ls []) := by
  unfold fX12_tellRule_306 at hf
  refine lv_aload_n b.1 b.2.1 dX12_tellRule_306 rfl (lv_at hl 0 rfl) ?_
  refine gM_110 b hE dX12_tellRule_307 ?_
  refine lv_aload_n b.1 b.2.1 dX12_tellRule_310 rfl (lv_at hl 0 rfl) ?_
  refine gM_384 b hE dX12_tellRule_311 ?_
  refine lv_iload b.1 b.2.1 dX12_tellRule_314 (lv_at hl 1 rfl) ?_
  obtain ⟨g5, hf⟩ := oC_s hf
  obtain ⟨h6, eh6, hf⟩ := oL_s hf
  refine n_iast b hE rfl rfl g5 eh6 dX12_tellRule_316 (fun H locs hE => ?_)
  refine lv_aload_n b.1 b.2.1 dX12_tellRule_317 rfl (lv_at hl 0 rfl) ?_
  obtain ⟨h8, hc7, hf⟩ := oB_s hf
  refine k_callV0 (C := RX12) b zs zk hE (CX12_next l D aC ad zk hc7) mc_X12_next (in7 117 rfl rfl) mi_X12_next ms_X12_next ini_RX12 ok_X12_next (m_recv b hE) ⟨Nat.le_of_ble_eq_true rfl, Nat.le_of_ble_eq_true rfl⟩ rfl hl.1 rfl (k_room _ (by exact Nat.le_of_ble_eq_true rfl)) ⟨Nat.le_refl _, Nat.le_refl _⟩ dX12_tellRule_318 (fun H locs hE => ?_)
  refine lv_aload_n b.1 b.2.1 dX12_tellRule_321 rfl (lv_at hl 0 rfl) ?_
  refine gM_113 b hE dX12_tellRule_322 ?_
  refine lv_aload_n b.1 b.2.1 dX12_tellRule_325 rfl (lv_at hl 0 rfl) ?_
  refine gM_384 b hE dX12_tellRule_326 ?_
  refine lv_aload_n b.1 b.2.1 dX12_tellRule_329 rfl (lv_at hl 0 rfl) ?_
  refine gM_356 b hE dX12_tellRule_330 ?_
  obtain ⟨g9, hf⟩ := oC_s hf
  obtain ⟨h10, eh10, hf⟩ := oL_s hf
  refine n_iast b hE rfl rfl g9 eh10 dX12_tellRule_333 (fun H locs hE => ?_)
  refine lv_aload_n b.1 b.2.1 dX12_tellRule_334 rfl (lv_at hl 0 rfl) ?_
  obtain ⟨h12, hc11, hf⟩ := oB_s hf
  refine k_callV0 (C := RX12) b zs zk hE (CX12_expression l D aC ad zk hc11) mc_X12_expression (in7 169 rfl rfl) mi_X12_expression ms_X12_expression ini_RX12 ok_X12_expression (m_recv b hE) ⟨Nat.le_of_ble_eq_true rfl, Nat.le_of_ble_eq_true rfl⟩ rfl hl.1 rfl (k_room _ (by exact Nat.le_of_ble_eq_true rfl)) ⟨Nat.le_refl _, Nat.le_refl _⟩ dX12_tellRule_335 (fun H locs hE => ?_)
  refine lv_aload_n b.1 b.2.1 dX12_tellRule_338 rfl (lv_at hl 0 rfl) ?_
  refine gM_116 b hE dX12_tellRule_339 ?_
  refine lv_aload_n b.1 b.2.1 dX12_tellRule_342 rfl (lv_at hl 0 rfl) ?_
  refine gM_384 b hE dX12_tellRule_343 ?_
  refine lv_aload_n b.1 b.2.1 dX12_tellRule_346 rfl (lv_at hl 0 rfl) ?_
  refine gM_356 b hE dX12_tellRule_347 ?_
  obtain ⟨g13, hf⟩ := oC_s hf
  obtain ⟨h14, eh14, hf⟩ := oL_s hf
  refine n_iast b hE rfl rfl g13 eh14 dX12_tellRule_350 (fun H locs hE => ?_)
  refine lv_goto (tgt := 410) b.1 b.2.1 dX12_tellRule_351 (by decide) ?_
  exact wfX12_tellRule_410 b hlk hr zs zk  hf hE (lv_sub hl [0] rfl)
def fX12_tellRule_293  (h : MS) (s0 : Int32) : Option (MS) :=
  if s0 = (-1) then (oB (fX12_fail h 1) (fun h17 => fX12_tellRule_306  h17 s0)) else (fX12_tellRule_306  h s0)
set_option maxHeartbeats 4000000 in
theorem wfX12_tellRule_293 {args : Array Value} (b : Bd p s m c cX12_tellRule 6 RX12 D aC) (hlk : meth.locks = false) (hr : meth.sig.returnType = none) {Z : State → Prop} (zs : Z s) (zk : ZOK Z (Rg ad)) {hz : MS} {h : MS} {s0 : Int32}  {H : Heap} {locs : List Loc} {ls : Array Slot} (hf : fX12_tellRule_293 h s0 = some hz) (hE : CE (EM D aC ad h) (Rg ad) s H locs) (hl : lv_has ls 6 [(0, .ref (ad 116))]) : W p l e (RM 7 152 0 0) s m args below meth c H locs 0 0 (MQ below (PQ (EM D aC ad hz) (Rg ad) none) args s 0 0 (Rg ad)) (F0 m 293 ls [.int s0]) := by
  unfold fX12_tellRule_293 at hf
  refine lv_istore (lv' := [(5, .int s0), (0, .ref (ad 116))]) b.1 b.2.1 dX12_tellRule_293 hl (by decide) rfl (fun ls hl => ?_)
  refine lv_iload b.1 b.2.1 dX12_tellRule_295 (lv_at hl 0 rfl) ?_
  refine lv_iconst (v := (-1)) b.1 b.2.1 dX12_tellRule_297 (by decide) ?_
  refine lv_icmp_ne (tgt := 306) b.1 b.2.1 dX12_tellRule_298 (by decide) (fun c15 => ?_) (fun c15 => ?_)
  · have hf := oI_f c15 hf
    exact wfX12_tellRule_306 b hlk hr zs zk  hf hE (lv_sub hl [1, 0] rfl)
  · have hf := oI_t c15 hf
    refine lv_aload_n b.1 b.2.1 dX12_tellRule_301 rfl (lv_at hl 1 rfl) ?_
    refine lv_iconst (v := 1) b.1 b.2.1 dX12_tellRule_302 (by decide) ?_
    obtain ⟨h17, hc16, hf⟩ := oB_s hf
    refine k_callV0 (C := RX12) b zs zk hE (CX12_fail l D aC ad zk hc16) mc_X12_fail (in7 121 rfl rfl) mi_X12_fail ms_X12_fail ini_RX12 ok_X12_fail (m_recv b hE) ⟨Nat.le_of_ble_eq_true rfl, Nat.le_of_ble_eq_true rfl⟩ rfl hl.1 rfl (k_room _ (by exact Nat.le_of_ble_eq_true rfl)) ⟨Nat.le_refl _, Nat.le_refl _⟩ dX12_tellRule_303 (fun H locs hE => ?_)
    exact wfX12_tellRule_306 b hlk hr zs zk  hf hE (lv_sub hl [1, 0] rfl)
def fX12_tellRule_142  (h : MS) (x2 : Int32) : Option (MS) :=
  oB (fX12_must h 15) (fun h19 => if x2 = 2 then (oL (mI h19 11) (fun y32 => oB (fX12_must h19 1) (fun h34 => if (mI h34 13) ≤ 0 then (oB2 (fX12_known h34 29 (mI h34 20) y32) (fun h38 r37 => oC (ix (mI h34 65) (mlen 44)) (oL (mSA h38 44 (Int32.toNatClampNeg (mI h34 65)) r37) (fun h40 => oC (ix (mI h40 65) (mlen 45)) (oL (mSA h40 45 (Int32.toNatClampNeg (mI h40 65)) 1) (fun h42 => oB (fX12_must h42 9) (fun h44 => oB2 (fX12_term h44 ) (fun h47 r46 => oC (ix (mI h44 65) (mlen 46)) (oL (mSA h47 46 (Int32.toNatClampNeg (mI h44 65)) r46) (fun h49 => oC (ix (mI h49 65) (mlen 47)) (oL (mSA h49 47 (Int32.toNatClampNeg (mI h49 65)) (-1)) (fun h51 => oB (fX12_must h51 10) (fun h53 => oB (fX12_is h53 11) (fun r55 => if r55 = 0 then (oB (fX12_is h53 13) (fun r58 => if r58 = 0 then (oB (fX12_is h53 36) (fun r61 => if r61 = 0 then (oB (fX12_is h53 37) (fun r64 => if r64 = 0 then (fX12_tellRule_293  h53 (-1)) else (fX12_tellRule_293  h53 3))) else (fX12_tellRule_293  h53 2))) else (fX12_tellRule_293  h53 1))) else (fX12_tellRule_293  h53 0))))))))))))))) else (some (h34))))) else (oB (fX12_literal h19 ) (fun h22 => oC (ix (mI h22 65) (mlen 44)) (oL (mSA h22 44 (Int32.toNatClampNeg (mI h22 65)) (mI h22 66)) (fun h24 => oC (isB (mI h24 67)) (oC (ix (mI h24 65) (mlen 45)) (oL (mSA h24 45 (Int32.toNatClampNeg (mI h24 65)) (mI h24 67)) (fun h27 => oC (ix (mI h27 65) (mlen 46)) (oL (mSA h27 46 (Int32.toNatClampNeg (mI h27 65)) (mI h27 68)) (fun h29 => oC (ix (mI h29 65) (mlen 47)) (oL (mSA h29 47 (Int32.toNatClampNeg (mI h29 65)) (mI h29 69)) (fun h31 => fX12_tellRule_410  h31))))))))))))
set_option maxHeartbeats 4000000 in
theorem wfX12_tellRule_142 {args : Array Value} (b : Bd p s m c cX12_tellRule 6 RX12 D aC) (hlk : meth.locks = false) (hr : meth.sig.returnType = none) {Z : State → Prop} (zs : Z s) (zk : ZOK Z (Rg ad)) {hz : MS} {h : MS} {x2 : Int32}  {H : Heap} {locs : List Loc} {ls : Array Slot} (hf : fX12_tellRule_142 h x2 = some hz) (hE : CE (EM D aC ad h) (Rg ad) s H locs) (hl : lv_has ls 6 [(0, .ref (ad 116)), (2, .int x2)]) : W p l e (RM 7 152 0 0) s m args below meth c H locs 0 0 (MQ below (PQ (EM D aC ad hz) (Rg ad) none) args s 0 0 (Rg ad)) (F0 m 142 ls []) := by
  unfold fX12_tellRule_142 at hf
  refine lv_aload_n b.1 b.2.1 dX12_tellRule_142 rfl (lv_at hl 0 rfl) ?_
  refine lv_bipush (v := 15) b.1 b.2.1 dX12_tellRule_143 (by decide) ?_
  obtain ⟨h19, hc18, hf⟩ := oB_s hf
  refine k_callV0 (C := RX12) b zs zk hE (CX12_must l D aC ad zk hc18) mc_X12_must (in7 129 rfl rfl) mi_X12_must ms_X12_must ini_RX12 ok_X12_must (m_recv b hE) ⟨Nat.le_of_ble_eq_true rfl, Nat.le_of_ble_eq_true rfl⟩ rfl hl.1 rfl (k_room _ (by exact Nat.le_of_ble_eq_true rfl)) ⟨Nat.le_refl _, Nat.le_refl _⟩ dX12_tellRule_145 (fun H locs hE => ?_)
  refine lv_iload_n b.1 b.2.1 dX12_tellRule_148 rfl (lv_at hl 1 rfl) ?_
  refine lv_iconst (v := 2) b.1 b.2.1 dX12_tellRule_149 (by decide) ?_
  refine lv_icmp_ne (tgt := 354) b.1 b.2.1 dX12_tellRule_150 (by decide) (fun c20 => ?_) (fun c20 => ?_)
  · have hf := oI_f c20 hf
    refine lv_aload_n b.1 b.2.1 dX12_tellRule_354 rfl (lv_at hl 0 rfl) ?_
    obtain ⟨h22, hc21, hf⟩ := oB_s hf
    refine k_callV0 (C := RX12) b zs zk hE (CX12_literal l D aC ad zk hc21) mc_X12_literal (in7 192 rfl rfl) mi_X12_literal ms_X12_literal ini_RX12 ok_X12_literal (m_recv b hE) ⟨Nat.le_of_ble_eq_true rfl, Nat.le_of_ble_eq_true rfl⟩ rfl hl.1 rfl (k_room _ (by exact Nat.le_of_ble_eq_true rfl)) ⟨Nat.le_refl _, Nat.le_refl _⟩ dX12_tellRule_355 (fun H locs hE => ?_)
    refine lv_aload_n b.1 b.2.1 dX12_tellRule_358 rfl (lv_at hl 0 rfl) ?_
    refine gM_97 b hE dX12_tellRule_359 ?_
    refine lv_aload_n b.1 b.2.1 dX12_tellRule_362 rfl (lv_at hl 0 rfl) ?_
    refine gM_384 b hE dX12_tellRule_363 ?_
    refine lv_aload_n b.1 b.2.1 dX12_tellRule_366 rfl (lv_at hl 0 rfl) ?_
    refine gM_400 b hE dX12_tellRule_367 ?_
    obtain ⟨g23, hf⟩ := oC_s hf
    obtain ⟨h24, eh24, hf⟩ := oL_s hf
    refine n_iast b hE rfl rfl g23 eh24 dX12_tellRule_370 (fun H locs hE => ?_)
    refine lv_aload_n b.1 b.2.1 dX12_tellRule_371 rfl (lv_at hl 0 rfl) ?_
    refine gM_100 b hE dX12_tellRule_372 ?_
    refine lv_aload_n b.1 b.2.1 dX12_tellRule_375 rfl (lv_at hl 0 rfl) ?_
    refine gM_384 b hE dX12_tellRule_376 ?_
    refine lv_aload_n b.1 b.2.1 dX12_tellRule_379 rfl (lv_at hl 0 rfl) ?_
    refine gM_403 b hE dX12_tellRule_380 ?_
    obtain ⟨g25, hf⟩ := oC_s hf
    obtain ⟨g26, hf⟩ := oC_s hf
    obtain ⟨h27, eh27, hf⟩ := oL_s hf
    refine n_zast b hE g25 rfl rfl g26 eh27 dX12_tellRule_383 (fun H locs hE => ?_)
    refine lv_aload_n b.1 b.2.1 dX12_tellRule_384 rfl (lv_at hl 0 rfl) ?_
    refine gM_104 b hE dX12_tellRule_385 ?_
    refine lv_aload_n b.1 b.2.1 dX12_tellRule_388 rfl (lv_at hl 0 rfl) ?_
    refine gM_384 b hE dX12_tellRule_389 ?_
    refine lv_aload_n b.1 b.2.1 dX12_tellRule_392 rfl (lv_at hl 0 rfl) ?_
    refine gM_407 b hE dX12_tellRule_393 ?_
    obtain ⟨g28, hf⟩ := oC_s hf
    obtain ⟨h29, eh29, hf⟩ := oL_s hf
    refine n_iast b hE rfl rfl g28 eh29 dX12_tellRule_396 (fun H locs hE => ?_)
    refine lv_aload_n b.1 b.2.1 dX12_tellRule_397 rfl (lv_at hl 0 rfl) ?_
    refine gM_107 b hE dX12_tellRule_398 ?_
    refine lv_aload_n b.1 b.2.1 dX12_tellRule_401 rfl (lv_at hl 0 rfl) ?_
    refine gM_384 b hE dX12_tellRule_402 ?_
    refine lv_aload_n b.1 b.2.1 dX12_tellRule_405 rfl (lv_at hl 0 rfl) ?_
    refine gM_410 b hE dX12_tellRule_406 ?_
    obtain ⟨g30, hf⟩ := oC_s hf
    obtain ⟨h31, eh31, hf⟩ := oL_s hf
    refine n_iast b hE rfl rfl g30 eh31 dX12_tellRule_409 (fun H locs hE => ?_)
    exact wfX12_tellRule_410 b hlk hr zs zk  hf hE (lv_sub hl [0] rfl)
  · have hf := oI_t c20 hf
    refine lv_aload_n b.1 b.2.1 dX12_tellRule_153 rfl (lv_at hl 0 rfl) ?_
    refine gM_297 b hE dX12_tellRule_154 ?_
    obtain ⟨y32, ey32, hf⟩ := oL_s hf
    refine k_nmI ey32 ?_
    refine lv_istore (lv' := [(4, .int y32), (0, .ref (ad 116)), (2, .int x2)]) b.1 b.2.1 dX12_tellRule_157 hl (by decide) rfl (fun ls hl => ?_)
    have hl := lv_sub (l' := [(4, .int y32), (0, .ref (ad 116))]) hl [0, 1] rfl
    refine lv_aload_n b.1 b.2.1 dX12_tellRule_159 rfl (lv_at hl 1 rfl) ?_
    refine lv_iconst (v := 1) b.1 b.2.1 dX12_tellRule_160 (by decide) ?_
    obtain ⟨h34, hc33, hf⟩ := oB_s hf
    refine k_callV0 (C := RX12) b zs zk hE (CX12_must l D aC ad zk hc33) mc_X12_must (in7 129 rfl rfl) mi_X12_must ms_X12_must ini_RX12 ok_X12_must (m_recv b hE) ⟨Nat.le_of_ble_eq_true rfl, Nat.le_of_ble_eq_true rfl⟩ rfl hl.1 rfl (k_room _ (by exact Nat.le_of_ble_eq_true rfl)) ⟨Nat.le_refl _, Nat.le_refl _⟩ dX12_tellRule_161 (fun H locs hE => ?_)
    refine lv_aload_n b.1 b.2.1 dX12_tellRule_164 rfl (lv_at hl 1 rfl) ?_
    refine gM_294 b hE dX12_tellRule_165 ?_
    refine lv_if_le (tgt := 172) b.1 b.2.1 dX12_tellRule_168 (by decide) (fun c35 => ?_) (fun c35 => ?_)
    · have hf := oI_t c35 hf
      refine lv_aload_n b.1 b.2.1 dX12_tellRule_172 rfl (lv_at hl 1 rfl) ?_
      refine gM_97 b hE dX12_tellRule_173 ?_
      refine lv_aload_n b.1 b.2.1 dX12_tellRule_176 rfl (lv_at hl 1 rfl) ?_
      refine gM_384 b hE dX12_tellRule_177 ?_
      refine lv_aload_n b.1 b.2.1 dX12_tellRule_180 rfl (lv_at hl 1 rfl) ?_
      refine lv_aload_n b.1 b.2.1 dX12_tellRule_181 rfl (lv_at hl 1 rfl) ?_
      refine gM_52 b hE dX12_tellRule_182 ?_
      refine lv_aload_n b.1 b.2.1 dX12_tellRule_185 rfl (lv_at hl 1 rfl) ?_
      refine gM_344 b hE dX12_tellRule_186 ?_
      refine lv_iload b.1 b.2.1 dX12_tellRule_189 (lv_at hl 0 rfl) ?_
      obtain ⟨h38, r37, hc36, hf⟩ := oB2_s hf
      refine k_callV0 (C := RX12) b zs zk hE (CX12_known l D aC ad zk hc36) mc_X12_known (in7 165 rfl rfl) mi_X12_known ms_X12_known ini_RX12 ok_X12_known (m_recv b hE) ⟨Nat.le_of_ble_eq_true rfl, Nat.le_of_ble_eq_true rfl⟩ rfl hl.1 rfl (k_room _ (by exact Nat.le_of_ble_eq_true rfl)) ⟨Nat.le_refl _, Nat.le_refl _⟩ dX12_tellRule_191 (fun H locs hE => ?_)
      obtain ⟨g39, hf⟩ := oC_s hf
      obtain ⟨h40, eh40, hf⟩ := oL_s hf
      refine n_iast b hE rfl rfl g39 eh40 dX12_tellRule_194 (fun H locs hE => ?_)
      refine lv_aload_n b.1 b.2.1 dX12_tellRule_195 rfl (lv_at hl 1 rfl) ?_
      refine gM_100 b hE dX12_tellRule_196 ?_
      refine lv_aload_n b.1 b.2.1 dX12_tellRule_199 rfl (lv_at hl 1 rfl) ?_
      refine gM_384 b hE dX12_tellRule_200 ?_
      refine lv_iconst (v := 1) b.1 b.2.1 dX12_tellRule_203 (by decide) ?_
      obtain ⟨g41, hf⟩ := oC_s hf
      obtain ⟨h42, eh42, hf⟩ := oL_s hf
      refine n_zast b hE (by decide) rfl rfl g41 eh42 dX12_tellRule_204 (fun H locs hE => ?_)
      refine lv_aload_n b.1 b.2.1 dX12_tellRule_205 rfl (lv_at hl 1 rfl) ?_
      refine lv_bipush (v := 9) b.1 b.2.1 dX12_tellRule_206 (by decide) ?_
      obtain ⟨h44, hc43, hf⟩ := oB_s hf
      refine k_callV0 (C := RX12) b zs zk hE (CX12_must l D aC ad zk hc43) mc_X12_must (in7 129 rfl rfl) mi_X12_must ms_X12_must ini_RX12 ok_X12_must (m_recv b hE) ⟨Nat.le_of_ble_eq_true rfl, Nat.le_of_ble_eq_true rfl⟩ rfl hl.1 rfl (k_room _ (by exact Nat.le_of_ble_eq_true rfl)) ⟨Nat.le_refl _, Nat.le_refl _⟩ dX12_tellRule_208 (fun H locs hE => ?_)
      refine lv_aload_n b.1 b.2.1 dX12_tellRule_211 rfl (lv_at hl 1 rfl) ?_
      refine gM_104 b hE dX12_tellRule_212 ?_
      refine lv_aload_n b.1 b.2.1 dX12_tellRule_215 rfl (lv_at hl 1 rfl) ?_
      refine gM_384 b hE dX12_tellRule_216 ?_
      refine lv_aload_n b.1 b.2.1 dX12_tellRule_219 rfl (lv_at hl 1 rfl) ?_
      obtain ⟨h47, r46, hc45, hf⟩ := oB2_s hf
      refine k_callV0 (C := RX12) b zs zk hE (CX12_term l D aC ad zk hc45) mc_X12_term (in7 157 rfl rfl) mi_X12_term ms_X12_term ini_RX12 ok_X12_term (m_recv b hE) ⟨Nat.le_of_ble_eq_true rfl, Nat.le_of_ble_eq_true rfl⟩ rfl hl.1 rfl (k_room _ (by exact Nat.le_of_ble_eq_true rfl)) ⟨Nat.le_refl _, Nat.le_refl _⟩ dX12_tellRule_220 (fun H locs hE => ?_)
      obtain ⟨g48, hf⟩ := oC_s hf
      obtain ⟨h49, eh49, hf⟩ := oL_s hf
      refine n_iast b hE rfl rfl g48 eh49 dX12_tellRule_223 (fun H locs hE => ?_)
      refine lv_aload_n b.1 b.2.1 dX12_tellRule_224 rfl (lv_at hl 1 rfl) ?_
      refine gM_107 b hE dX12_tellRule_225 ?_
      refine lv_aload_n b.1 b.2.1 dX12_tellRule_228 rfl (lv_at hl 1 rfl) ?_
      refine gM_384 b hE dX12_tellRule_229 ?_
      refine lv_iconst (v := (-1)) b.1 b.2.1 dX12_tellRule_232 (by decide) ?_
      obtain ⟨g50, hf⟩ := oC_s hf
      obtain ⟨h51, eh51, hf⟩ := oL_s hf
      refine n_iast b hE rfl rfl g50 eh51 dX12_tellRule_233 (fun H locs hE => ?_)
      refine lv_aload_n b.1 b.2.1 dX12_tellRule_234 rfl (lv_at hl 1 rfl) ?_
      refine lv_bipush (v := 10) b.1 b.2.1 dX12_tellRule_235 (by decide) ?_
      obtain ⟨h53, hc52, hf⟩ := oB_s hf
      refine k_callV0 (C := RX12) b zs zk hE (CX12_must l D aC ad zk hc52) mc_X12_must (in7 129 rfl rfl) mi_X12_must ms_X12_must ini_RX12 ok_X12_must (m_recv b hE) ⟨Nat.le_of_ble_eq_true rfl, Nat.le_of_ble_eq_true rfl⟩ rfl hl.1 rfl (k_room _ (by exact Nat.le_of_ble_eq_true rfl)) ⟨Nat.le_refl _, Nat.le_refl _⟩ dX12_tellRule_237 (fun H locs hE => ?_)
      refine lv_aload_n b.1 b.2.1 dX12_tellRule_240 rfl (lv_at hl 1 rfl) ?_
      refine lv_bipush (v := 11) b.1 b.2.1 dX12_tellRule_241 (by decide) ?_
      obtain ⟨r55, hc54, hf⟩ := oB_s hf
      refine k_callV0 (C := RX12) b zs zk hE (CX12_is l D aC ad zk hc54) mc_X12_is (in7 109 rfl rfl) mi_X12_is ms_X12_is ini_RX12 ok_X12_is (m_recv b hE) ⟨Nat.le_of_ble_eq_true rfl, Nat.le_of_ble_eq_true rfl⟩ rfl hl.1 rfl (k_room _ (by exact Nat.le_of_ble_eq_true rfl)) ⟨Nat.le_refl _, Nat.le_refl _⟩ dX12_tellRule_243 (fun H locs hE => ?_)
      refine lv_if_eq (tgt := 253) b.1 b.2.1 dX12_tellRule_246 (by decide) (fun c56 => ?_) (fun c56 => ?_)
      · have hf := oI_t c56 hf
        refine lv_aload_n b.1 b.2.1 dX12_tellRule_253 rfl (lv_at hl 1 rfl) ?_
        refine lv_bipush (v := 13) b.1 b.2.1 dX12_tellRule_254 (by decide) ?_
        obtain ⟨r58, hc57, hf⟩ := oB_s hf
        refine k_callV0 (C := RX12) b zs zk hE (CX12_is l D aC ad zk hc57) mc_X12_is (in7 109 rfl rfl) mi_X12_is ms_X12_is ini_RX12 ok_X12_is (m_recv b hE) ⟨Nat.le_of_ble_eq_true rfl, Nat.le_of_ble_eq_true rfl⟩ rfl hl.1 rfl (k_room _ (by exact Nat.le_of_ble_eq_true rfl)) ⟨Nat.le_refl _, Nat.le_refl _⟩ dX12_tellRule_256 (fun H locs hE => ?_)
        refine lv_if_eq (tgt := 266) b.1 b.2.1 dX12_tellRule_259 (by decide) (fun c59 => ?_) (fun c59 => ?_)
        · have hf := oI_t c59 hf
          refine lv_aload_n b.1 b.2.1 dX12_tellRule_266 rfl (lv_at hl 1 rfl) ?_
          refine lv_bipush (v := 36) b.1 b.2.1 dX12_tellRule_267 (by decide) ?_
          obtain ⟨r61, hc60, hf⟩ := oB_s hf
          refine k_callV0 (C := RX12) b zs zk hE (CX12_is l D aC ad zk hc60) mc_X12_is (in7 109 rfl rfl) mi_X12_is ms_X12_is ini_RX12 ok_X12_is (m_recv b hE) ⟨Nat.le_of_ble_eq_true rfl, Nat.le_of_ble_eq_true rfl⟩ rfl hl.1 rfl (k_room _ (by exact Nat.le_of_ble_eq_true rfl)) ⟨Nat.le_refl _, Nat.le_refl _⟩ dX12_tellRule_269 (fun H locs hE => ?_)
          refine lv_if_eq (tgt := 279) b.1 b.2.1 dX12_tellRule_272 (by decide) (fun c62 => ?_) (fun c62 => ?_)
          · have hf := oI_t c62 hf
            refine lv_aload_n b.1 b.2.1 dX12_tellRule_279 rfl (lv_at hl 1 rfl) ?_
            refine lv_bipush (v := 37) b.1 b.2.1 dX12_tellRule_280 (by decide) ?_
            obtain ⟨r64, hc63, hf⟩ := oB_s hf
            refine k_callV0 (C := RX12) b zs zk hE (CX12_is l D aC ad zk hc63) mc_X12_is (in7 109 rfl rfl) mi_X12_is ms_X12_is ini_RX12 ok_X12_is (m_recv b hE) ⟨Nat.le_of_ble_eq_true rfl, Nat.le_of_ble_eq_true rfl⟩ rfl hl.1 rfl (k_room _ (by exact Nat.le_of_ble_eq_true rfl)) ⟨Nat.le_refl _, Nat.le_refl _⟩ dX12_tellRule_282 (fun H locs hE => ?_)
            refine lv_if_eq (tgt := 292) b.1 b.2.1 dX12_tellRule_285 (by decide) (fun c65 => ?_) (fun c65 => ?_)
            · have hf := oI_t c65 hf
              refine lv_iconst (v := (-1)) b.1 b.2.1 dX12_tellRule_292 (by decide) ?_
              exact wfX12_tellRule_293 b hlk hr zs zk  hf hE (lv_sub hl [1] rfl)
            · have hf := oI_f c65 hf
              refine lv_iconst (v := 3) b.1 b.2.1 dX12_tellRule_288 (by decide) ?_
              refine lv_goto (tgt := 293) b.1 b.2.1 dX12_tellRule_289 (by decide) ?_
              exact wfX12_tellRule_293 b hlk hr zs zk  hf hE (lv_sub hl [1] rfl)
          · have hf := oI_f c62 hf
            refine lv_iconst (v := 2) b.1 b.2.1 dX12_tellRule_275 (by decide) ?_
            refine lv_goto (tgt := 293) b.1 b.2.1 dX12_tellRule_276 (by decide) ?_
            exact wfX12_tellRule_293 b hlk hr zs zk  hf hE (lv_sub hl [1] rfl)
        · have hf := oI_f c59 hf
          refine lv_iconst (v := 1) b.1 b.2.1 dX12_tellRule_262 (by decide) ?_
          refine lv_goto (tgt := 293) b.1 b.2.1 dX12_tellRule_263 (by decide) ?_
          exact wfX12_tellRule_293 b hlk hr zs zk  hf hE (lv_sub hl [1] rfl)
      · have hf := oI_f c56 hf
        refine lv_iconst (v := 0) b.1 b.2.1 dX12_tellRule_249 (by decide) ?_
        refine lv_goto (tgt := 293) b.1 b.2.1 dX12_tellRule_250 (by decide) ?_
        exact wfX12_tellRule_293 b hlk hr zs zk  hf hE (lv_sub hl [1] rfl)
    · have hf := oI_f c35 hf
      cases hf
      exact k_vret b hlk hr hE (Nat.le_refl _) (Nat.le_refl _) dX12_tellRule_171
def fX12_tellRule_106F (k106 : MS → Int32 → Int32 → Option (MS)) (h : MS) (x2 : Int32) (x4 : Int32) : Option (MS) :=
  if x4 = 0 then (fX12_tellRule_142  h x2) else (if (mI h 13) = 0 then (oB (fX12_tellCond h ) (fun h69 => oB (fX12_is h69 7) (fun r71 => if r71 = 0 then (k106 h69 x2 r71) else (oB (fX12_next h69 ) (fun h74 => k106 h74 x2 r71))))) else (fX12_tellRule_142  h x2))
set_option maxHeartbeats 4000000 in
theorem wfX12_tellRule_106F {args : Array Value} (b : Bd p s m c cX12_tellRule 6 RX12 D aC) (hlk : meth.locks = false) (hr : meth.sig.returnType = none) {Z : State → Prop} (zs : Z s) (zk : ZOK Z (Rg ad)) {hz : MS} {k106 : MS → Int32 → Int32 → Option (MS)} (H106 : ∀ (h : MS) (x2 : Int32) (x4 : Int32), ∀ (H : Heap) (locs : List Loc) (ls : Array Slot), k106 h x2 x4 = some hz → CE (EM D aC ad h) (Rg ad) s H locs → lv_has ls 6 [(0, .ref (ad 116)), (2, .int x2), (4, .int x4)] → W p l e (RM 7 152 0 0) s m args below meth c H locs 0 0 (MQ below (PQ (EM D aC ad hz) (Rg ad) none) args s 0 0 (Rg ad)) (F0 m 106 ls [])) {h : MS} {x2 : Int32} {x4 : Int32}  {H : Heap} {locs : List Loc} {ls : Array Slot} (hf : fX12_tellRule_106F k106 h x2 x4 = some hz) (hE : CE (EM D aC ad h) (Rg ad) s H locs) (hl : lv_has ls 6 [(0, .ref (ad 116)), (2, .int x2), (4, .int x4)]) : W p l e (RM 7 152 0 0) s m args below meth c H locs 0 0 (MQ below (PQ (EM D aC ad hz) (Rg ad) none) args s 0 0 (Rg ad)) (F0 m 106 ls []) := by
  unfold fX12_tellRule_106F at hf
  refine lv_iload b.1 b.2.1 dX12_tellRule_106 (lv_at hl 2 rfl) ?_
  refine lv_if_eq (tgt := 142) b.1 b.2.1 dX12_tellRule_108 (by decide) (fun c66 => ?_) (fun c66 => ?_)
  · have hf := oI_t c66 hf
    exact wfX12_tellRule_142 b hlk hr zs zk  hf hE (lv_sub hl [0, 1] rfl)
  · have hf := oI_f c66 hf
    refine lv_aload_n b.1 b.2.1 dX12_tellRule_111 rfl (lv_at hl 0 rfl) ?_
    refine gM_294 b hE dX12_tellRule_112 ?_
    refine lv_if_ne (tgt := 142) b.1 b.2.1 dX12_tellRule_115 (by decide) (fun c67 => ?_) (fun c67 => ?_)
    · have hf := oI_f c67 hf
      exact wfX12_tellRule_142 b hlk hr zs zk  hf hE (lv_sub hl [0, 1] rfl)
    · have hf := oI_t c67 hf
      refine lv_aload_n b.1 b.2.1 dX12_tellRule_118 rfl (lv_at hl 0 rfl) ?_
      obtain ⟨h69, hc68, hf⟩ := oB_s hf
      refine k_callV0 (C := RX12) b zs zk hE (CX12_tellCond l D aC ad zk hc68) mc_X12_tellCond (in7 153 rfl rfl) mi_X12_tellCond ms_X12_tellCond ini_RX12 ok_X12_tellCond (m_recv b hE) ⟨Nat.le_of_ble_eq_true rfl, Nat.le_of_ble_eq_true rfl⟩ rfl hl.1 rfl (k_room _ (by exact Nat.le_of_ble_eq_true rfl)) ⟨Nat.le_refl _, Nat.le_refl _⟩ dX12_tellRule_119 (fun H locs hE => ?_)
      refine lv_aload_n b.1 b.2.1 dX12_tellRule_122 rfl (lv_at hl 0 rfl) ?_
      refine lv_bipush (v := 7) b.1 b.2.1 dX12_tellRule_123 (by decide) ?_
      obtain ⟨r71, hc70, hf⟩ := oB_s hf
      refine k_callV0 (C := RX12) b zs zk hE (CX12_is l D aC ad zk hc70) mc_X12_is (in7 109 rfl rfl) mi_X12_is ms_X12_is ini_RX12 ok_X12_is (m_recv b hE) ⟨Nat.le_of_ble_eq_true rfl, Nat.le_of_ble_eq_true rfl⟩ rfl hl.1 rfl (k_room _ (by exact Nat.le_of_ble_eq_true rfl)) ⟨Nat.le_refl _, Nat.le_refl _⟩ dX12_tellRule_125 (fun H locs hE => ?_)
      refine lv_istore (lv' := [(4, .int r71), (0, .ref (ad 116)), (2, .int x2)]) b.1 b.2.1 dX12_tellRule_128 hl (by decide) rfl (fun ls hl => ?_)
      refine lv_iload b.1 b.2.1 dX12_tellRule_130 (lv_at hl 0 rfl) ?_
      refine lv_if_eq (tgt := 106) b.1 b.2.1 dX12_tellRule_132 (by decide) (fun c72 => ?_) (fun c72 => ?_)
      · have hf := oI_t c72 hf
        exact H106 h69 x2 r71 _ _ _ hf hE (lv_sub hl [1, 2, 0] rfl)
      · have hf := oI_f c72 hf
        refine lv_aload_n b.1 b.2.1 dX12_tellRule_135 rfl (lv_at hl 1 rfl) ?_
        obtain ⟨h74, hc73, hf⟩ := oB_s hf
        refine k_callV0 (C := RX12) b zs zk hE (CX12_next l D aC ad zk hc73) mc_X12_next (in7 117 rfl rfl) mi_X12_next ms_X12_next ini_RX12 ok_X12_next (m_recv b hE) ⟨Nat.le_of_ble_eq_true rfl, Nat.le_of_ble_eq_true rfl⟩ rfl hl.1 rfl (k_room _ (by exact Nat.le_of_ble_eq_true rfl)) ⟨Nat.le_refl _, Nat.le_refl _⟩ dX12_tellRule_136 (fun H locs hE => ?_)
        refine lv_goto (tgt := 106) b.1 b.2.1 dX12_tellRule_139 (by decide) ?_
        exact H106 h74 x2 r71 _ _ _ hf hE (lv_sub hl [1, 2, 0] rfl)
def fX12_tellRule_106  : Nat → MS → Int32 → Int32 → Option (MS)
  | 0 => fun _ _ _ => none
  | n + 1 => fX12_tellRule_106F  (fX12_tellRule_106  n)
set_option maxHeartbeats 4000000 in
theorem wfX12_tellRule_106 {args : Array Value} (b : Bd p s m c cX12_tellRule 6 RX12 D aC) (hlk : meth.locks = false) (hr : meth.sig.returnType = none) {Z : State → Prop} (zs : Z s) (zk : ZOK Z (Rg ad)) {hz : MS} : ∀ n : Nat, ∀ (h : MS) (x2 : Int32) (x4 : Int32), ∀ (H : Heap) (locs : List Loc) (ls : Array Slot), fX12_tellRule_106  n h x2 x4 = some hz → CE (EM D aC ad h) (Rg ad) s H locs → lv_has ls 6 [(0, .ref (ad 116)), (2, .int x2), (4, .int x4)] → W p l e (RM 7 152 0 0) s m args below meth c H locs 0 0 (MQ below (PQ (EM D aC ad hz) (Rg ad) none) args s 0 0 (Rg ad)) (F0 m 106 ls []) := by
  intro n
  induction n with
  | zero =>
    intro h x2 x4 H locs ls hf
    have hf : (none : Option (MS)) = some _ := hf
    cases hf
  | succ n ih =>
    intro h x2 x4 H locs ls hf hE hl
    exact wfX12_tellRule_106F b hlk hr zs zk  ih hf hE hl
def fX12_tellRule_0  (h : MS) (x1 : Int32) : Option (MS) :=
  oC (ix (mI h 11) (mlen 5)) (oL ((mA h 5 (Int32.toNatClampNeg (mI h 11))) - 29) (fun y76 => oB (fX12_next h ) (fun h78 => oB2 (fX12_tells h78 38 (mI h78 22) 30) (fun h81 r80 => oB (fX12_must h81 6) (fun h83 => if (mI h83 13) ≤ 0 then (oL (mSI h83 65 (mI h83 22)) (fun h85 => oC (ix (mI h85 65) (mlen 39)) (oL (mSA h85 39 (Int32.toNatClampNeg (mI h85 65)) x1) (fun h87 => oC (ix (mI h87 65) (mlen 40)) (oL (mSA h87 40 (Int32.toNatClampNeg (mI h87 65)) y76) (fun h89 => oC (ix (mI h89 65) (mlen 41)) (oL (mSA h89 41 (Int32.toNatClampNeg (mI h89 65)) 0) (fun h91 => oC (ix (mI h91 65) (mlen 42)) (oL (mSA h91 42 (Int32.toNatClampNeg (mI h91 65)) 0) (fun h93 => oB (fX12_is h93 15) (fun r95 => if r95 = 0 then (fX12_tellRule_106  FU h93 y76 1) else (fX12_tellRule_142  h93 y76)))))))))))) else (some (h83)))))))
set_option maxHeartbeats 4000000 in
theorem wfX12_tellRule_0 {args : Array Value} (b : Bd p s m c cX12_tellRule 6 RX12 D aC) (hlk : meth.locks = false) (hr : meth.sig.returnType = none) {Z : State → Prop} (zs : Z s) (zk : ZOK Z (Rg ad)) {hz : MS} {h : MS} {x1 : Int32}  {H : Heap} {locs : List Loc} {ls : Array Slot} (hf : fX12_tellRule_0 h x1 = some hz) (hE : CE (EM D aC ad h) (Rg ad) s H locs) (hl : lv_has ls 6 [(0, .ref (ad 116)), (1, .int x1)]) : W p l e (RM 7 152 0 0) s m args below meth c H locs 0 0 (MQ below (PQ (EM D aC ad hz) (Rg ad) none) args s 0 0 (Rg ad)) (F0 m 0 ls []) := by
  unfold fX12_tellRule_0 at hf
  refine lv_aload_n b.1 b.2.1 dX12_tellRule_0 rfl (lv_at hl 0 rfl) ?_
  refine gM_20 b hE dX12_tellRule_1 ?_
  refine lv_aload_n b.1 b.2.1 dX12_tellRule_4 rfl (lv_at hl 0 rfl) ?_
  refine gM_297 b hE dX12_tellRule_5 ?_
  obtain ⟨g75, hf⟩ := oC_s hf
  refine m_iald b hE rfl rfl g75 dX12_tellRule_8 ?_
  refine lv_bipush (v := 29) b.1 b.2.1 dX12_tellRule_9 (by decide) ?_
  refine lv_isub b.1 b.2.1 dX12_tellRule_11 ?_
  obtain ⟨y76, ey76, hf⟩ := oL_s hf
  refine k_nmI ey76 ?_
  refine lv_istore_n (lv' := [(2, .int y76), (0, .ref (ad 116)), (1, .int x1)]) b.1 b.2.1 dX12_tellRule_12 rfl hl (by decide) rfl (fun ls hl => ?_)
  refine lv_aload_n b.1 b.2.1 dX12_tellRule_13 rfl (lv_at hl 1 rfl) ?_
  obtain ⟨h78, hc77, hf⟩ := oB_s hf
  refine k_callV0 (C := RX12) b zs zk hE (CX12_next l D aC ad zk hc77) mc_X12_next (in7 117 rfl rfl) mi_X12_next ms_X12_next ini_RX12 ok_X12_next (m_recv b hE) ⟨Nat.le_of_ble_eq_true rfl, Nat.le_of_ble_eq_true rfl⟩ rfl hl.1 rfl (k_room _ (by exact Nat.le_of_ble_eq_true rfl)) ⟨Nat.le_refl _, Nat.le_refl _⟩ dX12_tellRule_14 (fun H locs hE => ?_)
  refine lv_aload_n b.1 b.2.1 dX12_tellRule_17 rfl (lv_at hl 1 rfl) ?_
  refine lv_aload_n b.1 b.2.1 dX12_tellRule_18 rfl (lv_at hl 1 rfl) ?_
  refine gM_79 b hE dX12_tellRule_19 ?_
  refine lv_aload_n b.1 b.2.1 dX12_tellRule_22 rfl (lv_at hl 1 rfl) ?_
  refine gM_350 b hE dX12_tellRule_23 ?_
  refine lv_bipush (v := 30) b.1 b.2.1 dX12_tellRule_26 (by decide) ?_
  obtain ⟨h81, r80, hc79, hf⟩ := oB2_s hf
  refine k_callV0 (C := RX12) b zs zk hE (CX12_tells l D aC ad zk hc79) mc_X12_tells (in7 125 rfl rfl) mi_X12_tells ms_X12_tells ini_RX12 ok_X12_tells (m_recv b hE) ⟨Nat.le_of_ble_eq_true rfl, Nat.le_of_ble_eq_true rfl⟩ rfl hl.1 rfl (k_room _ (by exact Nat.le_of_ble_eq_true rfl)) ⟨Nat.le_refl _, Nat.le_refl _⟩ dX12_tellRule_28 (fun H locs hE => ?_)
  refine lv_istore_n (lv' := [(3, .int r80), (2, .int y76), (0, .ref (ad 116)), (1, .int x1)]) b.1 b.2.1 dX12_tellRule_31 rfl hl (by decide) rfl (fun ls hl => ?_)
  have hl := lv_sub (l' := [(2, .int y76), (0, .ref (ad 116)), (1, .int x1)]) hl [1, 2, 3] rfl
  refine lv_aload_n b.1 b.2.1 dX12_tellRule_32 rfl (lv_at hl 1 rfl) ?_
  refine lv_bipush (v := 6) b.1 b.2.1 dX12_tellRule_33 (by decide) ?_
  obtain ⟨h83, hc82, hf⟩ := oB_s hf
  refine k_callV0 (C := RX12) b zs zk hE (CX12_must l D aC ad zk hc82) mc_X12_must (in7 129 rfl rfl) mi_X12_must ms_X12_must ini_RX12 ok_X12_must (m_recv b hE) ⟨Nat.le_of_ble_eq_true rfl, Nat.le_of_ble_eq_true rfl⟩ rfl hl.1 rfl (k_room _ (by exact Nat.le_of_ble_eq_true rfl)) ⟨Nat.le_refl _, Nat.le_refl _⟩ dX12_tellRule_35 (fun H locs hE => ?_)
  refine lv_aload_n b.1 b.2.1 dX12_tellRule_38 rfl (lv_at hl 1 rfl) ?_
  refine gM_294 b hE dX12_tellRule_39 ?_
  refine lv_if_le (tgt := 46) b.1 b.2.1 dX12_tellRule_42 (by decide) (fun c84 => ?_) (fun c84 => ?_)
  · have hf := oI_t c84 hf
    refine lv_aload_n b.1 b.2.1 dX12_tellRule_46 rfl (lv_at hl 1 rfl) ?_
    refine lv_aload_n b.1 b.2.1 dX12_tellRule_47 rfl (lv_at hl 1 rfl) ?_
    refine gM_350 b hE dX12_tellRule_48 ?_
    obtain ⟨h85, eh85, hf⟩ := oL_s hf
    refine pM_384 b hE eh85 dX12_tellRule_51 (fun H locs hE => ?_)
    refine lv_aload_n b.1 b.2.1 dX12_tellRule_54 rfl (lv_at hl 1 rfl) ?_
    refine gM_82 b hE dX12_tellRule_55 ?_
    refine lv_aload_n b.1 b.2.1 dX12_tellRule_58 rfl (lv_at hl 1 rfl) ?_
    refine gM_384 b hE dX12_tellRule_59 ?_
    refine lv_iload_n b.1 b.2.1 dX12_tellRule_62 rfl (lv_at hl 2 rfl) ?_
    obtain ⟨g86, hf⟩ := oC_s hf
    obtain ⟨h87, eh87, hf⟩ := oL_s hf
    refine n_iast b hE rfl rfl g86 eh87 dX12_tellRule_63 (fun H locs hE => ?_)
    refine lv_aload_n b.1 b.2.1 dX12_tellRule_64 rfl (lv_at hl 1 rfl) ?_
    refine gM_85 b hE dX12_tellRule_65 ?_
    refine lv_aload_n b.1 b.2.1 dX12_tellRule_68 rfl (lv_at hl 1 rfl) ?_
    refine gM_384 b hE dX12_tellRule_69 ?_
    refine lv_iload_n b.1 b.2.1 dX12_tellRule_72 rfl (lv_at hl 0 rfl) ?_
    obtain ⟨g88, hf⟩ := oC_s hf
    obtain ⟨h89, eh89, hf⟩ := oL_s hf
    refine n_iast b hE rfl rfl g88 eh89 dX12_tellRule_73 (fun H locs hE => ?_)
    refine lv_aload_n b.1 b.2.1 dX12_tellRule_74 rfl (lv_at hl 1 rfl) ?_
    refine gM_88 b hE dX12_tellRule_75 ?_
    refine lv_aload_n b.1 b.2.1 dX12_tellRule_78 rfl (lv_at hl 1 rfl) ?_
    refine gM_384 b hE dX12_tellRule_79 ?_
    refine lv_iconst (v := 0) b.1 b.2.1 dX12_tellRule_82 (by decide) ?_
    obtain ⟨g90, hf⟩ := oC_s hf
    obtain ⟨h91, eh91, hf⟩ := oL_s hf
    refine n_iast b hE rfl rfl g90 eh91 dX12_tellRule_83 (fun H locs hE => ?_)
    refine lv_aload_n b.1 b.2.1 dX12_tellRule_84 rfl (lv_at hl 1 rfl) ?_
    refine gM_91 b hE dX12_tellRule_85 ?_
    refine lv_aload_n b.1 b.2.1 dX12_tellRule_88 rfl (lv_at hl 1 rfl) ?_
    refine gM_384 b hE dX12_tellRule_89 ?_
    refine lv_iconst (v := 0) b.1 b.2.1 dX12_tellRule_92 (by decide) ?_
    obtain ⟨g92, hf⟩ := oC_s hf
    obtain ⟨h93, eh93, hf⟩ := oL_s hf
    refine n_iast b hE rfl rfl g92 eh93 dX12_tellRule_93 (fun H locs hE => ?_)
    refine lv_aload_n b.1 b.2.1 dX12_tellRule_94 rfl (lv_at hl 1 rfl) ?_
    refine lv_bipush (v := 15) b.1 b.2.1 dX12_tellRule_95 (by decide) ?_
    obtain ⟨r95, hc94, hf⟩ := oB_s hf
    refine k_callV0 (C := RX12) b zs zk hE (CX12_is l D aC ad zk hc94) mc_X12_is (in7 109 rfl rfl) mi_X12_is ms_X12_is ini_RX12 ok_X12_is (m_recv b hE) ⟨Nat.le_of_ble_eq_true rfl, Nat.le_of_ble_eq_true rfl⟩ rfl hl.1 rfl (k_room _ (by exact Nat.le_of_ble_eq_true rfl)) ⟨Nat.le_refl _, Nat.le_refl _⟩ dX12_tellRule_97 (fun H locs hE => ?_)
    refine lv_if_ne (tgt := 142) b.1 b.2.1 dX12_tellRule_100 (by decide) (fun c96 => ?_) (fun c96 => ?_)
    · have hf := oI_f c96 hf
      exact wfX12_tellRule_142 b hlk hr zs zk  hf hE (lv_sub hl [1, 0] rfl)
    · have hf := oI_t c96 hf
      refine lv_iconst (v := 1) b.1 b.2.1 dX12_tellRule_103 (by decide) ?_
      refine lv_istore (lv' := [(4, .int 1), (2, .int y76), (0, .ref (ad 116)), (1, .int x1)]) b.1 b.2.1 dX12_tellRule_104 hl (by decide) rfl (fun ls hl => ?_)
      have hl := lv_sub (l' := [(4, .int 1), (2, .int y76), (0, .ref (ad 116))]) hl [0, 1, 2] rfl
      exact wfX12_tellRule_106 b hlk hr zs zk  FU h93 y76 1 _ _ _ hf hE (lv_sub hl [2, 1, 0] rfl)
  · have hf := oI_f c84 hf
    cases hf
    exact k_vret b hlk hr hE (Nat.le_refl _) (Nat.le_refl _) dX12_tellRule_45
def fX12_tellRule (h : MS) (x1 : Int32) : Option (MS) := fX12_tellRule_0 h x1
set_option maxHeartbeats 4000000 in
theorem CX12_tellRule (l : Launch) (D : va_G) (aC : Nat → ClassId) (ad : Nat → Nat) {Z : State → Prop} (zk : ZOK Z (Rg ad)) {h : MS} {x1 : Int32} {hz : MS} (hf : fX12_tellRule h x1 = some hz) : CM l D aC Z yX12_tellRule cX12_tellRule 6 (none) 7 152 0 0 (EM D aC ad h) [.ref (ad 116), .int x1] (EM D aC ad hz) none (Rg ad) := by
  refine CM.of rfl ?_
  intro p e s m below meth c b hr hlk hin2 zs hE
  refine k_ent (Nat.le_of_ble_eq_true rfl) (fun ls hl => ?_)
  exact wfX12_tellRule_0 b hlk hr zs zk hf hE (lv_sub hl [0, 1] rfl)
theorem dX12_tellLaw_0 : decode cX12_tellLaw 0 = .ok (.aload_n 0, 1) := by decide +kernel
theorem dX12_tellLaw_1 : decode cX12_tellLaw 1 = .ok (.invokevirtual 315, 3) := by decide +kernel
theorem dX12_tellLaw_4 : decode cX12_tellLaw 4 = .ok (.aload_n 0, 1) := by decide +kernel
theorem dX12_tellLaw_5 : decode cX12_tellLaw 5 = .ok (.aload_n 0, 1) := by decide +kernel
theorem dX12_tellLaw_6 : decode cX12_tellLaw 6 = .ok (.getfield 55, 3) := by decide +kernel
theorem dX12_tellLaw_9 : decode cX12_tellLaw 9 = .ok (.aload_n 0, 1) := by decide +kernel
theorem dX12_tellLaw_10 : decode cX12_tellLaw 10 = .ok (.getfield 347, 3) := by decide +kernel
theorem dX12_tellLaw_13 : decode cX12_tellLaw 13 = .ok (.bipush 10, 2) := by decide +kernel
theorem dX12_tellLaw_15 : decode cX12_tellLaw 15 = .ok (.invokevirtual 365, 3) := by decide +kernel
theorem dX12_tellLaw_18 : decode cX12_tellLaw 18 = .ok (.istore_n 1, 1) := by decide +kernel
theorem dX12_tellLaw_19 : decode cX12_tellLaw 19 = .ok (.aload_n 0, 1) := by decide +kernel
theorem dX12_tellLaw_20 : decode cX12_tellLaw 20 = .ok (.bipush 24, 2) := by decide +kernel
theorem dX12_tellLaw_22 : decode cX12_tellLaw 22 = .ok (.invokevirtual 318, 3) := by decide +kernel
theorem dX12_tellLaw_25 : decode cX12_tellLaw 25 = .ok (.aload_n 0, 1) := by decide +kernel
theorem dX12_tellLaw_26 : decode cX12_tellLaw 26 = .ok (.bipush 9, 2) := by decide +kernel
theorem dX12_tellLaw_28 : decode cX12_tellLaw 28 = .ok (.invokevirtual 368, 3) := by decide +kernel
theorem dX12_tellLaw_31 : decode cX12_tellLaw 31 = .ok (.istore_n 2, 1) := by decide +kernel
theorem dX12_tellLaw_32 : decode cX12_tellLaw 32 = .ok (.aload_n 0, 1) := by decide +kernel
theorem dX12_tellLaw_33 : decode cX12_tellLaw 33 = .ok (.bipush 25, 2) := by decide +kernel
theorem dX12_tellLaw_35 : decode cX12_tellLaw 35 = .ok (.invokevirtual 318, 3) := by decide +kernel
theorem dX12_tellLaw_38 : decode cX12_tellLaw 38 = .ok (.aload_n 0, 1) := by decide +kernel
theorem dX12_tellLaw_39 : decode cX12_tellLaw 39 = .ok (.ldc_w 377, 3) := by decide +kernel
theorem dX12_tellLaw_42 : decode cX12_tellLaw 42 = .ok (.invokevirtual 368, 3) := by decide +kernel
theorem dX12_tellLaw_45 : decode cX12_tellLaw 45 = .ok (.istore_n 3, 1) := by decide +kernel
theorem dX12_tellLaw_46 : decode cX12_tellLaw 46 = .ok (.iconst (-1), 1) := by decide +kernel
theorem dX12_tellLaw_47 : decode cX12_tellLaw 47 = .ok (.istore 4, 2) := by decide +kernel
theorem dX12_tellLaw_49 : decode cX12_tellLaw 49 = .ok (.aload_n 0, 1) := by decide +kernel
theorem dX12_tellLaw_50 : decode cX12_tellLaw 50 = .ok (.bipush 26, 2) := by decide +kernel
theorem dX12_tellLaw_52 : decode cX12_tellLaw 52 = .ok (.invokevirtual 312, 3) := by decide +kernel
theorem dX12_tellLaw_55 : decode cX12_tellLaw 55 = .ok (.ifCond .eq 46, 3) := by decide +kernel
theorem dX12_tellLaw_58 : decode cX12_tellLaw 58 = .ok (.aload_n 0, 1) := by decide +kernel
theorem dX12_tellLaw_59 : decode cX12_tellLaw 59 = .ok (.invokevirtual 315, 3) := by decide +kernel
theorem dX12_tellLaw_62 : decode cX12_tellLaw 62 = .ok (.aload_n 0, 1) := by decide +kernel
theorem dX12_tellLaw_63 : decode cX12_tellLaw 63 = .ok (.ldc_w 377, 3) := by decide +kernel
theorem dX12_tellLaw_66 : decode cX12_tellLaw 66 = .ok (.invokevirtual 368, 3) := by decide +kernel
theorem dX12_tellLaw_69 : decode cX12_tellLaw 69 = .ok (.istore 4, 2) := by decide +kernel
theorem dX12_tellLaw_71 : decode cX12_tellLaw 71 = .ok (.aload_n 0, 1) := by decide +kernel
theorem dX12_tellLaw_72 : decode cX12_tellLaw 72 = .ok (.getfield 294, 3) := by decide +kernel
theorem dX12_tellLaw_75 : decode cX12_tellLaw 75 = .ok (.ifCond .ne 26, 3) := by decide +kernel
theorem dX12_tellLaw_78 : decode cX12_tellLaw 78 = .ok (.aload_n 0, 1) := by decide +kernel
theorem dX12_tellLaw_79 : decode cX12_tellLaw 79 = .ok (.getfield 27, 3) := by decide +kernel
theorem dX12_tellLaw_82 : decode cX12_tellLaw 82 = .ok (.iload 4, 2) := by decide +kernel
theorem dX12_tellLaw_84 : decode cX12_tellLaw 84 = .ok (.iaload, 1) := by decide +kernel
theorem dX12_tellLaw_85 : decode cX12_tellLaw 85 = .ok (.aload_n 0, 1) := by decide +kernel
theorem dX12_tellLaw_86 : decode cX12_tellLaw 86 = .ok (.getfield 27, 3) := by decide +kernel
theorem dX12_tellLaw_89 : decode cX12_tellLaw 89 = .ok (.iload_n 3, 1) := by decide +kernel
theorem dX12_tellLaw_90 : decode cX12_tellLaw 90 = .ok (.iaload, 1) := by decide +kernel
theorem dX12_tellLaw_91 : decode cX12_tellLaw 91 = .ok (.if_icmp .gt 10, 3) := by decide +kernel
theorem dX12_tellLaw_94 : decode cX12_tellLaw 94 = .ok (.aload_n 0, 1) := by decide +kernel
theorem dX12_tellLaw_95 : decode cX12_tellLaw 95 = .ok (.iconst 5, 1) := by decide +kernel
theorem dX12_tellLaw_96 : decode cX12_tellLaw 96 = .ok (.iload 4, 2) := by decide +kernel
theorem dX12_tellLaw_98 : decode cX12_tellLaw 98 = .ok (.invokevirtual 325, 3) := by decide +kernel
theorem dX12_tellLaw_101 : decode cX12_tellLaw 101 = .ok (.aload_n 0, 1) := by decide +kernel
theorem dX12_tellLaw_102 : decode cX12_tellLaw 102 = .ok (.iconst 5, 1) := by decide +kernel
theorem dX12_tellLaw_103 : decode cX12_tellLaw 103 = .ok (.invokevirtual 318, 3) := by decide +kernel
theorem dX12_tellLaw_106 : decode cX12_tellLaw 106 = .ok (.aload_n 0, 1) := by decide +kernel
theorem dX12_tellLaw_107 : decode cX12_tellLaw 107 = .ok (.getfield 294, 3) := by decide +kernel
theorem dX12_tellLaw_110 : decode cX12_tellLaw 110 = .ok (.ifCond .le 4, 3) := by decide +kernel
theorem dX12_tellLaw_113 : decode cX12_tellLaw 113 = .ok (.return_, 1) := by decide +kernel
theorem dX12_tellLaw_114 : decode cX12_tellLaw 114 = .ok (.aload_n 0, 1) := by decide +kernel
theorem dX12_tellLaw_115 : decode cX12_tellLaw 115 = .ok (.getfield 347, 3) := by decide +kernel
theorem dX12_tellLaw_118 : decode cX12_tellLaw 118 = .ok (.istore 5, 2) := by decide +kernel
theorem dX12_tellLaw_120 : decode cX12_tellLaw 120 = .ok (.aload_n 0, 1) := by decide +kernel
theorem dX12_tellLaw_121 : decode cX12_tellLaw 121 = .ok (.getfield 58, 3) := by decide +kernel
theorem dX12_tellLaw_124 : decode cX12_tellLaw 124 = .ok (.iload 5, 2) := by decide +kernel
theorem dX12_tellLaw_126 : decode cX12_tellLaw 126 = .ok (.aload_n 0, 1) := by decide +kernel
theorem dX12_tellLaw_127 : decode cX12_tellLaw 127 = .ok (.getfield 27, 3) := by decide +kernel
theorem dX12_tellLaw_130 : decode cX12_tellLaw 130 = .ok (.iload_n 2, 1) := by decide +kernel
theorem dX12_tellLaw_131 : decode cX12_tellLaw 131 = .ok (.iaload, 1) := by decide +kernel
theorem dX12_tellLaw_132 : decode cX12_tellLaw 132 = .ok (.iastore, 1) := by decide +kernel
theorem dX12_tellLaw_133 : decode cX12_tellLaw 133 = .ok (.aload_n 0, 1) := by decide +kernel
theorem dX12_tellLaw_134 : decode cX12_tellLaw 134 = .ok (.getfield 61, 3) := by decide +kernel
theorem dX12_tellLaw_137 : decode cX12_tellLaw 137 = .ok (.iload 5, 2) := by decide +kernel
theorem dX12_tellLaw_139 : decode cX12_tellLaw 139 = .ok (.aload_n 0, 1) := by decide +kernel
theorem dX12_tellLaw_140 : decode cX12_tellLaw 140 = .ok (.getfield 378, 3) := by decide +kernel
theorem dX12_tellLaw_143 : decode cX12_tellLaw 143 = .ok (.iastore, 1) := by decide +kernel
theorem dX12_tellLaw_144 : decode cX12_tellLaw 144 = .ok (.aload_n 0, 1) := by decide +kernel
theorem dX12_tellLaw_145 : decode cX12_tellLaw 145 = .ok (.getfield 64, 3) := by decide +kernel
theorem dX12_tellLaw_148 : decode cX12_tellLaw 148 = .ok (.iload 5, 2) := by decide +kernel
theorem dX12_tellLaw_150 : decode cX12_tellLaw 150 = .ok (.aload_n 0, 1) := by decide +kernel
theorem dX12_tellLaw_151 : decode cX12_tellLaw 151 = .ok (.getfield 27, 3) := by decide +kernel
theorem dX12_tellLaw_154 : decode cX12_tellLaw 154 = .ok (.iload_n 3, 1) := by decide +kernel
theorem dX12_tellLaw_155 : decode cX12_tellLaw 155 = .ok (.iaload, 1) := by decide +kernel
theorem dX12_tellLaw_156 : decode cX12_tellLaw 156 = .ok (.iastore, 1) := by decide +kernel
theorem dX12_tellLaw_157 : decode cX12_tellLaw 157 = .ok (.aload_n 0, 1) := by decide +kernel
theorem dX12_tellLaw_158 : decode cX12_tellLaw 158 = .ok (.getfield 67, 3) := by decide +kernel
theorem dX12_tellLaw_161 : decode cX12_tellLaw 161 = .ok (.iload 5, 2) := by decide +kernel
theorem dX12_tellLaw_163 : decode cX12_tellLaw 163 = .ok (.iload 4, 2) := by decide +kernel
theorem dX12_tellLaw_165 : decode cX12_tellLaw 165 = .ok (.iconst (-1), 1) := by decide +kernel
theorem dX12_tellLaw_166 : decode cX12_tellLaw 166 = .ok (.if_icmp .ne 7, 3) := by decide +kernel
theorem dX12_tellLaw_169 : decode cX12_tellLaw 169 = .ok (.iconst (-1), 1) := by decide +kernel
theorem dX12_tellLaw_170 : decode cX12_tellLaw 170 = .ok (.goto 10, 3) := by decide +kernel
theorem dX12_tellLaw_173 : decode cX12_tellLaw 173 = .ok (.aload_n 0, 1) := by decide +kernel
theorem dX12_tellLaw_174 : decode cX12_tellLaw 174 = .ok (.getfield 27, 3) := by decide +kernel
theorem dX12_tellLaw_177 : decode cX12_tellLaw 177 = .ok (.iload 4, 2) := by decide +kernel
theorem dX12_tellLaw_179 : decode cX12_tellLaw 179 = .ok (.iaload, 1) := by decide +kernel
theorem dX12_tellLaw_180 : decode cX12_tellLaw 180 = .ok (.iastore, 1) := by decide +kernel
theorem dX12_tellLaw_181 : decode cX12_tellLaw 181 = .ok (.aload_n 0, 1) := by decide +kernel
theorem dX12_tellLaw_182 : decode cX12_tellLaw 182 = .ok (.getfield 70, 3) := by decide +kernel
theorem dX12_tellLaw_185 : decode cX12_tellLaw 185 = .ok (.iload 5, 2) := by decide +kernel
theorem dX12_tellLaw_187 : decode cX12_tellLaw 187 = .ok (.iconst 0, 1) := by decide +kernel
theorem dX12_tellLaw_188 : decode cX12_tellLaw 188 = .ok (.iastore, 1) := by decide +kernel
theorem dX12_tellLaw_189 : decode cX12_tellLaw 189 = .ok (.aload_n 0, 1) := by decide +kernel
theorem dX12_tellLaw_190 : decode cX12_tellLaw 190 = .ok (.dup, 1) := by decide +kernel
theorem dX12_tellLaw_191 : decode cX12_tellLaw 191 = .ok (.getfield 347, 3) := by decide +kernel
theorem dX12_tellLaw_194 : decode cX12_tellLaw 194 = .ok (.iconst 1, 1) := by decide +kernel
theorem dX12_tellLaw_195 : decode cX12_tellLaw 195 = .ok (.iadd, 1) := by decide +kernel
theorem dX12_tellLaw_196 : decode cX12_tellLaw 196 = .ok (.putfield 347, 3) := by decide +kernel
theorem dX12_tellLaw_199 : decode cX12_tellLaw 199 = .ok (.aload_n 0, 1) := by decide +kernel
theorem dX12_tellLaw_200 : decode cX12_tellLaw 200 = .ok (.bipush 29, 2) := by decide +kernel
theorem dX12_tellLaw_202 : decode cX12_tellLaw 202 = .ok (.invokevirtual 312, 3) := by decide +kernel
theorem dX12_tellLaw_205 : decode cX12_tellLaw 205 = .ok (.ifCond .ne 21, 3) := by decide +kernel
theorem dX12_tellLaw_208 : decode cX12_tellLaw 208 = .ok (.aload_n 0, 1) := by decide +kernel
theorem dX12_tellLaw_209 : decode cX12_tellLaw 209 = .ok (.bipush 30, 2) := by decide +kernel
theorem dX12_tellLaw_211 : decode cX12_tellLaw 211 = .ok (.invokevirtual 312, 3) := by decide +kernel
theorem dX12_tellLaw_214 : decode cX12_tellLaw 214 = .ok (.ifCond .ne 12, 3) := by decide +kernel
theorem dX12_tellLaw_217 : decode cX12_tellLaw 217 = .ok (.aload_n 0, 1) := by decide +kernel
theorem dX12_tellLaw_218 : decode cX12_tellLaw 218 = .ok (.bipush 31, 2) := by decide +kernel
theorem dX12_tellLaw_220 : decode cX12_tellLaw 220 = .ok (.invokevirtual 312, 3) := by decide +kernel
theorem dX12_tellLaw_223 : decode cX12_tellLaw 223 = .ok (.ifCond .eq 30, 3) := by decide +kernel
theorem dX12_tellLaw_226 : decode cX12_tellLaw 226 = .ok (.aload_n 0, 1) := by decide +kernel
theorem dX12_tellLaw_227 : decode cX12_tellLaw 227 = .ok (.iload 5, 2) := by decide +kernel
theorem dX12_tellLaw_229 : decode cX12_tellLaw 229 = .ok (.invokevirtual 381, 3) := by decide +kernel
theorem dX12_tellLaw_232 : decode cX12_tellLaw 232 = .ok (.aload_n 0, 1) := by decide +kernel
theorem dX12_tellLaw_233 : decode cX12_tellLaw 233 = .ok (.getfield 294, 3) := by decide +kernel
theorem dX12_tellLaw_236 : decode cX12_tellLaw 236 = .ok (.ifCond .ne (-37), 3) := by decide +kernel
theorem dX12_tellLaw_239 : decode cX12_tellLaw 239 = .ok (.aload_n 0, 1) := by decide +kernel
theorem dX12_tellLaw_240 : decode cX12_tellLaw 240 = .ok (.getfield 70, 3) := by decide +kernel
theorem dX12_tellLaw_243 : decode cX12_tellLaw 243 = .ok (.iload 5, 2) := by decide +kernel
theorem dX12_tellLaw_245 : decode cX12_tellLaw 245 = .ok (.dup2, 1) := by decide +kernel
theorem dX12_tellLaw_246 : decode cX12_tellLaw 246 = .ok (.iaload, 1) := by decide +kernel
theorem dX12_tellLaw_247 : decode cX12_tellLaw 247 = .ok (.iconst 1, 1) := by decide +kernel
theorem dX12_tellLaw_248 : decode cX12_tellLaw 248 = .ok (.iadd, 1) := by decide +kernel
theorem dX12_tellLaw_249 : decode cX12_tellLaw 249 = .ok (.iastore, 1) := by decide +kernel
theorem dX12_tellLaw_250 : decode cX12_tellLaw 250 = .ok (.goto (-51), 3) := by decide +kernel
theorem dX12_tellLaw_253 : decode cX12_tellLaw 253 = .ok (.aload_n 0, 1) := by decide +kernel
theorem dX12_tellLaw_254 : decode cX12_tellLaw 254 = .ok (.bipush 27, 2) := by decide +kernel
theorem dX12_tellLaw_256 : decode cX12_tellLaw 256 = .ok (.invokevirtual 318, 3) := by decide +kernel
theorem dX12_tellLaw_259 : decode cX12_tellLaw 259 = .ok (.return_, 1) := by decide +kernel
def fX12_tellLaw_226 (k199 : MS → Int32 → Option (MS)) (h : MS) (x5 : Int32) : Option (MS) :=
  oB (fX12_tellRule h x5) (fun h2 => if (mI h2 13) = 0 then (oC (ix x5 (mlen 35)) (oC (ix x5 (mlen 35)) (oL (mSA h2 35 (Int32.toNatClampNeg x5) ((mA h2 35 (Int32.toNatClampNeg x5)) + 1)) (fun h6 => k199 h6 x5)))) else (k199 h2 x5))
set_option maxHeartbeats 4000000 in
theorem wfX12_tellLaw_226 {args : Array Value} (b : Bd p s m c cX12_tellLaw 6 RX12 D aC) (hlk : meth.locks = false) (hr : meth.sig.returnType = none) {Z : State → Prop} (zs : Z s) (zk : ZOK Z (Rg ad)) {hz : MS} {k199 : MS → Int32 → Option (MS)} (H199 : ∀ (h : MS) (x5 : Int32), ∀ (H : Heap) (locs : List Loc) (ls : Array Slot), k199 h x5 = some hz → CE (EM D aC ad h) (Rg ad) s H locs → lv_has ls 6 [(0, .ref (ad 116)), (5, .int x5)] → W p l e (RM 8 177 0 0) s m args below meth c H locs 0 0 (MQ below (PQ (EM D aC ad hz) (Rg ad) none) args s 0 0 (Rg ad)) (F0 m 199 ls [])) {h : MS} {x5 : Int32}  {H : Heap} {locs : List Loc} {ls : Array Slot} (hf : fX12_tellLaw_226 k199 h x5 = some hz) (hE : CE (EM D aC ad h) (Rg ad) s H locs) (hl : lv_has ls 6 [(0, .ref (ad 116)), (5, .int x5)]) : W p l e (RM 8 177 0 0) s m args below meth c H locs 0 0 (MQ below (PQ (EM D aC ad hz) (Rg ad) none) args s 0 0 (Rg ad)) (F0 m 226 ls []) := by
  unfold fX12_tellLaw_226 at hf
  refine lv_aload_n b.1 b.2.1 dX12_tellLaw_226 rfl (lv_at hl 0 rfl) ?_
  refine lv_iload b.1 b.2.1 dX12_tellLaw_227 (lv_at hl 1 rfl) ?_
  obtain ⟨h2, hc1, hf⟩ := oB_s hf
  refine k_callV0 (C := RX12) b zs zk hE (CX12_tellRule l D aC ad zk hc1) mc_X12_tellRule (in7 149 rfl rfl) mi_X12_tellRule ms_X12_tellRule ini_RX12 ok_X12_tellRule (m_recv b hE) ⟨Nat.le_of_ble_eq_true rfl, Nat.le_of_ble_eq_true rfl⟩ rfl hl.1 rfl (k_room _ (by exact Nat.le_of_ble_eq_true rfl)) ⟨Nat.le_refl _, Nat.le_refl _⟩ dX12_tellLaw_229 (fun H locs hE => ?_)
  refine lv_aload_n b.1 b.2.1 dX12_tellLaw_232 rfl (lv_at hl 0 rfl) ?_
  refine gM_294 b hE dX12_tellLaw_233 ?_
  refine lv_if_ne (tgt := 199) b.1 b.2.1 dX12_tellLaw_236 (by decide) (fun c3 => ?_) (fun c3 => ?_)
  · have hf := oI_f c3 hf
    exact H199 h2 x5 _ _ _ hf hE (lv_sub hl [0, 1] rfl)
  · have hf := oI_t c3 hf
    refine lv_aload_n b.1 b.2.1 dX12_tellLaw_239 rfl (lv_at hl 0 rfl) ?_
    refine gM_70 b hE dX12_tellLaw_240 ?_
    refine lv_iload b.1 b.2.1 dX12_tellLaw_243 (lv_at hl 1 rfl) ?_
    refine lv_dup2_11 b.1 b.2.1 dX12_tellLaw_245 rfl rfl ?_
    obtain ⟨g4, hf⟩ := oC_s hf
    refine m_iald b hE rfl rfl g4 dX12_tellLaw_246 ?_
    refine lv_iconst (v := 1) b.1 b.2.1 dX12_tellLaw_247 (by decide) ?_
    refine lv_iadd b.1 b.2.1 dX12_tellLaw_248 ?_
    obtain ⟨g5, hf⟩ := oC_s hf
    obtain ⟨h6, eh6, hf⟩ := oL_s hf
    refine n_iast b hE rfl rfl g5 eh6 dX12_tellLaw_249 (fun H locs hE => ?_)
    refine lv_goto (tgt := 199) b.1 b.2.1 dX12_tellLaw_250 (by decide) ?_
    exact H199 h6 x5 _ _ _ hf hE (lv_sub hl [0, 1] rfl)
def fX12_tellLaw_199F (k199 : MS → Int32 → Option (MS)) (h : MS) (x5 : Int32) : Option (MS) :=
  oB (fX12_is h 29) (fun r8 => if r8 = 0 then (oB (fX12_is h 30) (fun r11 => if r11 = 0 then (oB (fX12_is h 31) (fun r14 => if r14 = 0 then (oB (fX12_must h 27) (fun h17 => some (h17))) else (fX12_tellLaw_226 k199 h x5))) else (fX12_tellLaw_226 k199 h x5))) else (fX12_tellLaw_226 k199 h x5))
set_option maxHeartbeats 4000000 in
theorem wfX12_tellLaw_199F {args : Array Value} (b : Bd p s m c cX12_tellLaw 6 RX12 D aC) (hlk : meth.locks = false) (hr : meth.sig.returnType = none) {Z : State → Prop} (zs : Z s) (zk : ZOK Z (Rg ad)) {hz : MS} {k199 : MS → Int32 → Option (MS)} (H199 : ∀ (h : MS) (x5 : Int32), ∀ (H : Heap) (locs : List Loc) (ls : Array Slot), k199 h x5 = some hz → CE (EM D aC ad h) (Rg ad) s H locs → lv_has ls 6 [(0, .ref (ad 116)), (5, .int x5)] → W p l e (RM 8 177 0 0) s m args below meth c H locs 0 0 (MQ below (PQ (EM D aC ad hz) (Rg ad) none) args s 0 0 (Rg ad)) (F0 m 199 ls [])) {h : MS} {x5 : Int32}  {H : Heap} {locs : List Loc} {ls : Array Slot} (hf : fX12_tellLaw_199F k199 h x5 = some hz) (hE : CE (EM D aC ad h) (Rg ad) s H locs) (hl : lv_has ls 6 [(0, .ref (ad 116)), (5, .int x5)]) : W p l e (RM 8 177 0 0) s m args below meth c H locs 0 0 (MQ below (PQ (EM D aC ad hz) (Rg ad) none) args s 0 0 (Rg ad)) (F0 m 199 ls []) := by
  unfold fX12_tellLaw_199F at hf
  refine lv_aload_n b.1 b.2.1 dX12_tellLaw_199 rfl (lv_at hl 0 rfl) ?_
  refine lv_bipush (v := 29) b.1 b.2.1 dX12_tellLaw_200 (by decide) ?_
  obtain ⟨r8, hc7, hf⟩ := oB_s hf
  refine k_callV0 (C := RX12) b zs zk hE (CX12_is l D aC ad zk hc7) mc_X12_is (in7 109 rfl rfl) mi_X12_is ms_X12_is ini_RX12 ok_X12_is (m_recv b hE) ⟨Nat.le_of_ble_eq_true rfl, Nat.le_of_ble_eq_true rfl⟩ rfl hl.1 rfl (k_room _ (by exact Nat.le_of_ble_eq_true rfl)) ⟨Nat.le_refl _, Nat.le_refl _⟩ dX12_tellLaw_202 (fun H locs hE => ?_)
  refine lv_if_ne (tgt := 226) b.1 b.2.1 dX12_tellLaw_205 (by decide) (fun c9 => ?_) (fun c9 => ?_)
  · have hf := oI_f c9 hf
    exact wfX12_tellLaw_226 b hlk hr zs zk H199 hf hE (lv_sub hl [0, 1] rfl)
  · have hf := oI_t c9 hf
    refine lv_aload_n b.1 b.2.1 dX12_tellLaw_208 rfl (lv_at hl 0 rfl) ?_
    refine lv_bipush (v := 30) b.1 b.2.1 dX12_tellLaw_209 (by decide) ?_
    obtain ⟨r11, hc10, hf⟩ := oB_s hf
    refine k_callV0 (C := RX12) b zs zk hE (CX12_is l D aC ad zk hc10) mc_X12_is (in7 109 rfl rfl) mi_X12_is ms_X12_is ini_RX12 ok_X12_is (m_recv b hE) ⟨Nat.le_of_ble_eq_true rfl, Nat.le_of_ble_eq_true rfl⟩ rfl hl.1 rfl (k_room _ (by exact Nat.le_of_ble_eq_true rfl)) ⟨Nat.le_refl _, Nat.le_refl _⟩ dX12_tellLaw_211 (fun H locs hE => ?_)
    refine lv_if_ne (tgt := 226) b.1 b.2.1 dX12_tellLaw_214 (by decide) (fun c12 => ?_) (fun c12 => ?_)
    · have hf := oI_f c12 hf
      exact wfX12_tellLaw_226 b hlk hr zs zk H199 hf hE (lv_sub hl [0, 1] rfl)
    · have hf := oI_t c12 hf
      refine lv_aload_n b.1 b.2.1 dX12_tellLaw_217 rfl (lv_at hl 0 rfl) ?_
      refine lv_bipush (v := 31) b.1 b.2.1 dX12_tellLaw_218 (by decide) ?_
      obtain ⟨r14, hc13, hf⟩ := oB_s hf
      refine k_callV0 (C := RX12) b zs zk hE (CX12_is l D aC ad zk hc13) mc_X12_is (in7 109 rfl rfl) mi_X12_is ms_X12_is ini_RX12 ok_X12_is (m_recv b hE) ⟨Nat.le_of_ble_eq_true rfl, Nat.le_of_ble_eq_true rfl⟩ rfl hl.1 rfl (k_room _ (by exact Nat.le_of_ble_eq_true rfl)) ⟨Nat.le_refl _, Nat.le_refl _⟩ dX12_tellLaw_220 (fun H locs hE => ?_)
      refine lv_if_eq (tgt := 253) b.1 b.2.1 dX12_tellLaw_223 (by decide) (fun c15 => ?_) (fun c15 => ?_)
      · have hf := oI_t c15 hf
        refine lv_aload_n b.1 b.2.1 dX12_tellLaw_253 rfl (lv_at hl 0 rfl) ?_
        refine lv_bipush (v := 27) b.1 b.2.1 dX12_tellLaw_254 (by decide) ?_
        obtain ⟨h17, hc16, hf⟩ := oB_s hf
        refine k_callV0 (C := RX12) b zs zk hE (CX12_must l D aC ad zk hc16) mc_X12_must (in7 129 rfl rfl) mi_X12_must ms_X12_must ini_RX12 ok_X12_must (m_recv b hE) ⟨Nat.le_of_ble_eq_true rfl, Nat.le_of_ble_eq_true rfl⟩ rfl hl.1 rfl (k_room _ (by exact Nat.le_of_ble_eq_true rfl)) ⟨Nat.le_refl _, Nat.le_refl _⟩ dX12_tellLaw_256 (fun H locs hE => ?_)
        cases hf
        exact k_vret b hlk hr hE (Nat.le_refl _) (Nat.le_refl _) dX12_tellLaw_259
      · have hf := oI_f c15 hf
        exact wfX12_tellLaw_226 b hlk hr zs zk H199 hf hE (lv_sub hl [0, 1] rfl)
def fX12_tellLaw_199  : Nat → MS → Int32 → Option (MS)
  | 0 => fun _ _ => none
  | n + 1 => fX12_tellLaw_199F  (fX12_tellLaw_199  n)
set_option maxHeartbeats 4000000 in
theorem wfX12_tellLaw_199 {args : Array Value} (b : Bd p s m c cX12_tellLaw 6 RX12 D aC) (hlk : meth.locks = false) (hr : meth.sig.returnType = none) {Z : State → Prop} (zs : Z s) (zk : ZOK Z (Rg ad)) {hz : MS} : ∀ n : Nat, ∀ (h : MS) (x5 : Int32), ∀ (H : Heap) (locs : List Loc) (ls : Array Slot), fX12_tellLaw_199  n h x5 = some hz → CE (EM D aC ad h) (Rg ad) s H locs → lv_has ls 6 [(0, .ref (ad 116)), (5, .int x5)] → W p l e (RM 8 177 0 0) s m args below meth c H locs 0 0 (MQ below (PQ (EM D aC ad hz) (Rg ad) none) args s 0 0 (Rg ad)) (F0 m 199 ls []) := by
  intro n
  induction n with
  | zero =>
    intro h x5 H locs ls hf
    have hf : (none : Option (MS)) = some _ := hf
    cases hf
  | succ n ih =>
    intro h x5 H locs ls hf hE hl
    exact wfX12_tellLaw_199F b hlk hr zs zk  ih hf hE hl
def fX12_tellLaw_180  (h : MS) (x5 : Int32) (s0 : Int32) (s1 : Int32) : Option (MS) :=
  oC (ix s1 (mlen 34)) (oL (mSA h 34 (Int32.toNatClampNeg s1) s0) (fun h19 => oC (ix x5 (mlen 35)) (oL (mSA h19 35 (Int32.toNatClampNeg x5) 0) (fun h21 => oL (mSI h21 21 ((mI h21 21) + 1)) (fun h22 => fX12_tellLaw_199  FU h22 x5)))))
set_option maxHeartbeats 4000000 in
theorem wfX12_tellLaw_180 {args : Array Value} (b : Bd p s m c cX12_tellLaw 6 RX12 D aC) (hlk : meth.locks = false) (hr : meth.sig.returnType = none) {Z : State → Prop} (zs : Z s) (zk : ZOK Z (Rg ad)) {hz : MS} {h : MS} {x5 : Int32} {s0 : Int32} {s1 : Int32}  {H : Heap} {locs : List Loc} {ls : Array Slot} (hf : fX12_tellLaw_180 h x5 s0 s1 = some hz) (hE : CE (EM D aC ad h) (Rg ad) s H locs) (hl : lv_has ls 6 [(0, .ref (ad 116)), (5, .int x5)]) : W p l e (RM 8 177 0 0) s m args below meth c H locs 0 0 (MQ below (PQ (EM D aC ad hz) (Rg ad) none) args s 0 0 (Rg ad)) (F0 m 180 ls [.int s0, .int s1, .ref (ad 34)]) := by
  unfold fX12_tellLaw_180 at hf
  obtain ⟨g18, hf⟩ := oC_s hf
  obtain ⟨h19, eh19, hf⟩ := oL_s hf
  refine n_iast b hE rfl rfl g18 eh19 dX12_tellLaw_180 (fun H locs hE => ?_)
  refine lv_aload_n b.1 b.2.1 dX12_tellLaw_181 rfl (lv_at hl 0 rfl) ?_
  refine gM_70 b hE dX12_tellLaw_182 ?_
  refine lv_iload b.1 b.2.1 dX12_tellLaw_185 (lv_at hl 1 rfl) ?_
  refine lv_iconst (v := 0) b.1 b.2.1 dX12_tellLaw_187 (by decide) ?_
  obtain ⟨g20, hf⟩ := oC_s hf
  obtain ⟨h21, eh21, hf⟩ := oL_s hf
  refine n_iast b hE rfl rfl g20 eh21 dX12_tellLaw_188 (fun H locs hE => ?_)
  refine lv_aload_n b.1 b.2.1 dX12_tellLaw_189 rfl (lv_at hl 0 rfl) ?_
  refine lv_dup b.1 b.2.1 dX12_tellLaw_190 rfl ?_
  refine gM_347 b hE dX12_tellLaw_191 ?_
  refine lv_iconst (v := 1) b.1 b.2.1 dX12_tellLaw_194 (by decide) ?_
  refine lv_iadd b.1 b.2.1 dX12_tellLaw_195 ?_
  obtain ⟨h22, eh22, hf⟩ := oL_s hf
  refine pM_347 b hE eh22 dX12_tellLaw_196 (fun H locs hE => ?_)
  exact wfX12_tellLaw_199 b hlk hr zs zk  FU h22 x5 _ _ _ hf hE (lv_sub hl [0, 1] rfl)
def fX12_tellLaw_101  (h : MS) (x2 : Int32) (x3 : Int32) (x4 : Int32) : Option (MS) :=
  oB (fX12_must h 5) (fun h24 => if (mI h24 13) ≤ 0 then (oL (mI h24 21) (fun y26 => oC (ix x2 (mlen 7)) (oC (ix y26 (mlen 31)) (oL (mSA h24 31 (Int32.toNatClampNeg y26) (mA h24 7 (Int32.toNatClampNeg x2))) (fun h29 => oC (ix y26 (mlen 32)) (oL (mSA h29 32 (Int32.toNatClampNeg y26) (mI h29 72)) (fun h31 => oC (ix x3 (mlen 7)) (oC (ix y26 (mlen 33)) (oL (mSA h31 33 (Int32.toNatClampNeg y26) (mA h31 7 (Int32.toNatClampNeg x3))) (fun h34 => if x4 = (-1) then (fX12_tellLaw_180  h34 y26 (-1) y26) else (oC (ix x4 (mlen 7)) (fX12_tellLaw_180  h34 y26 (mA h34 7 (Int32.toNatClampNeg x4)) y26)))))))))))) else (some (h24)))
set_option maxHeartbeats 4000000 in
theorem wfX12_tellLaw_101 {args : Array Value} (b : Bd p s m c cX12_tellLaw 6 RX12 D aC) (hlk : meth.locks = false) (hr : meth.sig.returnType = none) {Z : State → Prop} (zs : Z s) (zk : ZOK Z (Rg ad)) {hz : MS} {h : MS} {x2 : Int32} {x3 : Int32} {x4 : Int32}  {H : Heap} {locs : List Loc} {ls : Array Slot} (hf : fX12_tellLaw_101 h x2 x3 x4 = some hz) (hE : CE (EM D aC ad h) (Rg ad) s H locs) (hl : lv_has ls 6 [(0, .ref (ad 116)), (2, .int x2), (3, .int x3), (4, .int x4)]) : W p l e (RM 8 177 0 0) s m args below meth c H locs 0 0 (MQ below (PQ (EM D aC ad hz) (Rg ad) none) args s 0 0 (Rg ad)) (F0 m 101 ls []) := by
  unfold fX12_tellLaw_101 at hf
  refine lv_aload_n b.1 b.2.1 dX12_tellLaw_101 rfl (lv_at hl 0 rfl) ?_
  refine lv_iconst (v := 5) b.1 b.2.1 dX12_tellLaw_102 (by decide) ?_
  obtain ⟨h24, hc23, hf⟩ := oB_s hf
  refine k_callV0 (C := RX12) b zs zk hE (CX12_must l D aC ad zk hc23) mc_X12_must (in7 129 rfl rfl) mi_X12_must ms_X12_must ini_RX12 ok_X12_must (m_recv b hE) ⟨Nat.le_of_ble_eq_true rfl, Nat.le_of_ble_eq_true rfl⟩ rfl hl.1 rfl (k_room _ (by exact Nat.le_of_ble_eq_true rfl)) ⟨Nat.le_refl _, Nat.le_refl _⟩ dX12_tellLaw_103 (fun H locs hE => ?_)
  refine lv_aload_n b.1 b.2.1 dX12_tellLaw_106 rfl (lv_at hl 0 rfl) ?_
  refine gM_294 b hE dX12_tellLaw_107 ?_
  refine lv_if_le (tgt := 114) b.1 b.2.1 dX12_tellLaw_110 (by decide) (fun c25 => ?_) (fun c25 => ?_)
  · have hf := oI_t c25 hf
    refine lv_aload_n b.1 b.2.1 dX12_tellLaw_114 rfl (lv_at hl 0 rfl) ?_
    refine gM_347 b hE dX12_tellLaw_115 ?_
    obtain ⟨y26, ey26, hf⟩ := oL_s hf
    refine k_nmI ey26 ?_
    refine lv_istore (lv' := [(5, .int y26), (0, .ref (ad 116)), (2, .int x2), (3, .int x3), (4, .int x4)]) b.1 b.2.1 dX12_tellLaw_118 hl (by decide) rfl (fun ls hl => ?_)
    refine lv_aload_n b.1 b.2.1 dX12_tellLaw_120 rfl (lv_at hl 1 rfl) ?_
    refine gM_58 b hE dX12_tellLaw_121 ?_
    refine lv_iload b.1 b.2.1 dX12_tellLaw_124 (lv_at hl 0 rfl) ?_
    refine lv_aload_n b.1 b.2.1 dX12_tellLaw_126 rfl (lv_at hl 1 rfl) ?_
    refine gM_27 b hE dX12_tellLaw_127 ?_
    refine lv_iload_n b.1 b.2.1 dX12_tellLaw_130 rfl (lv_at hl 2 rfl) ?_
    obtain ⟨g27, hf⟩ := oC_s hf
    refine m_iald b hE rfl rfl g27 dX12_tellLaw_131 ?_
    obtain ⟨g28, hf⟩ := oC_s hf
    obtain ⟨h29, eh29, hf⟩ := oL_s hf
    refine n_iast b hE rfl rfl g28 eh29 dX12_tellLaw_132 (fun H locs hE => ?_)
    refine lv_aload_n b.1 b.2.1 dX12_tellLaw_133 rfl (lv_at hl 1 rfl) ?_
    refine gM_61 b hE dX12_tellLaw_134 ?_
    refine lv_iload b.1 b.2.1 dX12_tellLaw_137 (lv_at hl 0 rfl) ?_
    refine lv_aload_n b.1 b.2.1 dX12_tellLaw_139 rfl (lv_at hl 1 rfl) ?_
    refine gM_378 b hE dX12_tellLaw_140 ?_
    obtain ⟨g30, hf⟩ := oC_s hf
    obtain ⟨h31, eh31, hf⟩ := oL_s hf
    refine n_iast b hE rfl rfl g30 eh31 dX12_tellLaw_143 (fun H locs hE => ?_)
    refine lv_aload_n b.1 b.2.1 dX12_tellLaw_144 rfl (lv_at hl 1 rfl) ?_
    refine gM_64 b hE dX12_tellLaw_145 ?_
    refine lv_iload b.1 b.2.1 dX12_tellLaw_148 (lv_at hl 0 rfl) ?_
    refine lv_aload_n b.1 b.2.1 dX12_tellLaw_150 rfl (lv_at hl 1 rfl) ?_
    refine gM_27 b hE dX12_tellLaw_151 ?_
    refine lv_iload_n b.1 b.2.1 dX12_tellLaw_154 rfl (lv_at hl 3 rfl) ?_
    obtain ⟨g32, hf⟩ := oC_s hf
    refine m_iald b hE rfl rfl g32 dX12_tellLaw_155 ?_
    obtain ⟨g33, hf⟩ := oC_s hf
    obtain ⟨h34, eh34, hf⟩ := oL_s hf
    refine n_iast b hE rfl rfl g33 eh34 dX12_tellLaw_156 (fun H locs hE => ?_)
    refine lv_aload_n b.1 b.2.1 dX12_tellLaw_157 rfl (lv_at hl 1 rfl) ?_
    refine gM_67 b hE dX12_tellLaw_158 ?_
    refine lv_iload b.1 b.2.1 dX12_tellLaw_161 (lv_at hl 0 rfl) ?_
    refine lv_iload b.1 b.2.1 dX12_tellLaw_163 (lv_at hl 4 rfl) ?_
    refine lv_iconst (v := (-1)) b.1 b.2.1 dX12_tellLaw_165 (by decide) ?_
    refine lv_icmp_ne (tgt := 173) b.1 b.2.1 dX12_tellLaw_166 (by decide) (fun c35 => ?_) (fun c35 => ?_)
    · have hf := oI_f c35 hf
      refine lv_aload_n b.1 b.2.1 dX12_tellLaw_173 rfl (lv_at hl 1 rfl) ?_
      refine gM_27 b hE dX12_tellLaw_174 ?_
      refine lv_iload b.1 b.2.1 dX12_tellLaw_177 (lv_at hl 4 rfl) ?_
      obtain ⟨g36, hf⟩ := oC_s hf
      refine m_iald b hE rfl rfl g36 dX12_tellLaw_179 ?_
      exact wfX12_tellLaw_180 b hlk hr zs zk  hf hE (lv_sub hl [1, 0] rfl)
    · have hf := oI_t c35 hf
      refine lv_iconst (v := (-1)) b.1 b.2.1 dX12_tellLaw_169 (by decide) ?_
      refine lv_goto (tgt := 180) b.1 b.2.1 dX12_tellLaw_170 (by decide) ?_
      exact wfX12_tellLaw_180 b hlk hr zs zk  hf hE (lv_sub hl [1, 0] rfl)
  · have hf := oI_f c25 hf
    cases hf
    exact k_vret b hlk hr hE (Nat.le_refl _) (Nat.le_refl _) dX12_tellLaw_113
def fX12_tellLaw_0  (h : MS) : Option (MS) :=
  oB (fX12_next h ) (fun h38 => oB2 (fX12_tells h38 30 (mI h38 21) 10) (fun h41 r40 => oB (fX12_must h41 24) (fun h43 => oB2 (fX12_whole h43 9) (fun h46 r45 => oB (fX12_must h46 25) (fun h48 => oB2 (fX12_whole h48 999999) (fun h51 r50 => oB (fX12_is h51 26) (fun r53 => if r53 = 0 then (fX12_tellLaw_101  h51 r45 r50 (-1)) else (oB (fX12_next h51 ) (fun h56 => oB2 (fX12_whole h56 999999) (fun h59 r58 => if (mI h59 13) = 0 then (oC (ix r58 (mlen 7)) (oC (ix r50 (mlen 7)) (if (mA h59 7 (Int32.toNatClampNeg r50)) < (mA h59 7 (Int32.toNatClampNeg r58)) then (fX12_tellLaw_101  h59 r45 r50 r58) else (oB (fX12_wrong h59 5 r58) (fun h65 => fX12_tellLaw_101  h65 r45 r50 r58))))) else (fX12_tellLaw_101  h59 r45 r50 r58)))))))))))
set_option maxHeartbeats 4000000 in
theorem wfX12_tellLaw_0 {args : Array Value} (b : Bd p s m c cX12_tellLaw 6 RX12 D aC) (hlk : meth.locks = false) (hr : meth.sig.returnType = none) {Z : State → Prop} (zs : Z s) (zk : ZOK Z (Rg ad)) {hz : MS} {h : MS}  {H : Heap} {locs : List Loc} {ls : Array Slot} (hf : fX12_tellLaw_0 h = some hz) (hE : CE (EM D aC ad h) (Rg ad) s H locs) (hl : lv_has ls 6 [(0, .ref (ad 116))]) : W p l e (RM 8 177 0 0) s m args below meth c H locs 0 0 (MQ below (PQ (EM D aC ad hz) (Rg ad) none) args s 0 0 (Rg ad)) (F0 m 0 ls []) := by
  unfold fX12_tellLaw_0 at hf
  refine lv_aload_n b.1 b.2.1 dX12_tellLaw_0 rfl (lv_at hl 0 rfl) ?_
  obtain ⟨h38, hc37, hf⟩ := oB_s hf
  refine k_callV0 (C := RX12) b zs zk hE (CX12_next l D aC ad zk hc37) mc_X12_next (in7 117 rfl rfl) mi_X12_next ms_X12_next ini_RX12 ok_X12_next (m_recv b hE) ⟨Nat.le_of_ble_eq_true rfl, Nat.le_of_ble_eq_true rfl⟩ rfl hl.1 rfl (k_room _ (by exact Nat.le_of_ble_eq_true rfl)) ⟨Nat.le_refl _, Nat.le_refl _⟩ dX12_tellLaw_1 (fun H locs hE => ?_)
  refine lv_aload_n b.1 b.2.1 dX12_tellLaw_4 rfl (lv_at hl 0 rfl) ?_
  refine lv_aload_n b.1 b.2.1 dX12_tellLaw_5 rfl (lv_at hl 0 rfl) ?_
  refine gM_55 b hE dX12_tellLaw_6 ?_
  refine lv_aload_n b.1 b.2.1 dX12_tellLaw_9 rfl (lv_at hl 0 rfl) ?_
  refine gM_347 b hE dX12_tellLaw_10 ?_
  refine lv_bipush (v := 10) b.1 b.2.1 dX12_tellLaw_13 (by decide) ?_
  obtain ⟨h41, r40, hc39, hf⟩ := oB2_s hf
  refine k_callV0 (C := RX12) b zs zk hE (CX12_tells l D aC ad zk hc39) mc_X12_tells (in7 125 rfl rfl) mi_X12_tells ms_X12_tells ini_RX12 ok_X12_tells (m_recv b hE) ⟨Nat.le_of_ble_eq_true rfl, Nat.le_of_ble_eq_true rfl⟩ rfl hl.1 rfl (k_room _ (by exact Nat.le_of_ble_eq_true rfl)) ⟨Nat.le_refl _, Nat.le_refl _⟩ dX12_tellLaw_15 (fun H locs hE => ?_)
  refine lv_istore_n (lv' := [(1, .int r40), (0, .ref (ad 116))]) b.1 b.2.1 dX12_tellLaw_18 rfl hl (by decide) rfl (fun ls hl => ?_)
  have hl := lv_sub (l' := [(0, .ref (ad 116))]) hl [1] rfl
  refine lv_aload_n b.1 b.2.1 dX12_tellLaw_19 rfl (lv_at hl 0 rfl) ?_
  refine lv_bipush (v := 24) b.1 b.2.1 dX12_tellLaw_20 (by decide) ?_
  obtain ⟨h43, hc42, hf⟩ := oB_s hf
  refine k_callV0 (C := RX12) b zs zk hE (CX12_must l D aC ad zk hc42) mc_X12_must (in7 129 rfl rfl) mi_X12_must ms_X12_must ini_RX12 ok_X12_must (m_recv b hE) ⟨Nat.le_of_ble_eq_true rfl, Nat.le_of_ble_eq_true rfl⟩ rfl hl.1 rfl (k_room _ (by exact Nat.le_of_ble_eq_true rfl)) ⟨Nat.le_refl _, Nat.le_refl _⟩ dX12_tellLaw_22 (fun H locs hE => ?_)
  refine lv_aload_n b.1 b.2.1 dX12_tellLaw_25 rfl (lv_at hl 0 rfl) ?_
  refine lv_bipush (v := 9) b.1 b.2.1 dX12_tellLaw_26 (by decide) ?_
  obtain ⟨h46, r45, hc44, hf⟩ := oB2_s hf
  refine k_callV0 (C := RX12) b zs zk hE (CX12_whole l D aC ad zk hc44) mc_X12_whole (in7 140 rfl rfl) mi_X12_whole ms_X12_whole ini_RX12 ok_X12_whole (m_recv b hE) ⟨Nat.le_of_ble_eq_true rfl, Nat.le_of_ble_eq_true rfl⟩ rfl hl.1 rfl (k_room _ (by exact Nat.le_of_ble_eq_true rfl)) ⟨Nat.le_refl _, Nat.le_refl _⟩ dX12_tellLaw_28 (fun H locs hE => ?_)
  refine lv_istore_n (lv' := [(2, .int r45), (0, .ref (ad 116))]) b.1 b.2.1 dX12_tellLaw_31 rfl hl (by decide) rfl (fun ls hl => ?_)
  refine lv_aload_n b.1 b.2.1 dX12_tellLaw_32 rfl (lv_at hl 1 rfl) ?_
  refine lv_bipush (v := 25) b.1 b.2.1 dX12_tellLaw_33 (by decide) ?_
  obtain ⟨h48, hc47, hf⟩ := oB_s hf
  refine k_callV0 (C := RX12) b zs zk hE (CX12_must l D aC ad zk hc47) mc_X12_must (in7 129 rfl rfl) mi_X12_must ms_X12_must ini_RX12 ok_X12_must (m_recv b hE) ⟨Nat.le_of_ble_eq_true rfl, Nat.le_of_ble_eq_true rfl⟩ rfl hl.1 rfl (k_room _ (by exact Nat.le_of_ble_eq_true rfl)) ⟨Nat.le_refl _, Nat.le_refl _⟩ dX12_tellLaw_35 (fun H locs hE => ?_)
  refine lv_aload_n b.1 b.2.1 dX12_tellLaw_38 rfl (lv_at hl 1 rfl) ?_
  refine k_ldcw (v := 999999) b (in7 148 rfl rfl) dX12_tellLaw_39 ?_
  obtain ⟨h51, r50, hc49, hf⟩ := oB2_s hf
  refine k_callV0 (C := RX12) b zs zk hE (CX12_whole l D aC ad zk hc49) mc_X12_whole (in7 140 rfl rfl) mi_X12_whole ms_X12_whole ini_RX12 ok_X12_whole (m_recv b hE) ⟨Nat.le_of_ble_eq_true rfl, Nat.le_of_ble_eq_true rfl⟩ rfl hl.1 rfl (k_room _ (by exact Nat.le_of_ble_eq_true rfl)) ⟨Nat.le_refl _, Nat.le_refl _⟩ dX12_tellLaw_42 (fun H locs hE => ?_)
  refine lv_istore_n (lv' := [(3, .int r50), (2, .int r45), (0, .ref (ad 116))]) b.1 b.2.1 dX12_tellLaw_45 rfl hl (by decide) rfl (fun ls hl => ?_)
  refine lv_iconst (v := (-1)) b.1 b.2.1 dX12_tellLaw_46 (by decide) ?_
  refine lv_istore (lv' := [(4, .int (-1)), (3, .int r50), (2, .int r45), (0, .ref (ad 116))]) b.1 b.2.1 dX12_tellLaw_47 hl (by decide) rfl (fun ls hl => ?_)
  refine lv_aload_n b.1 b.2.1 dX12_tellLaw_49 rfl (lv_at hl 3 rfl) ?_
  refine lv_bipush (v := 26) b.1 b.2.1 dX12_tellLaw_50 (by decide) ?_
  obtain ⟨r53, hc52, hf⟩ := oB_s hf
  refine k_callV0 (C := RX12) b zs zk hE (CX12_is l D aC ad zk hc52) mc_X12_is (in7 109 rfl rfl) mi_X12_is ms_X12_is ini_RX12 ok_X12_is (m_recv b hE) ⟨Nat.le_of_ble_eq_true rfl, Nat.le_of_ble_eq_true rfl⟩ rfl hl.1 rfl (k_room _ (by exact Nat.le_of_ble_eq_true rfl)) ⟨Nat.le_refl _, Nat.le_refl _⟩ dX12_tellLaw_52 (fun H locs hE => ?_)
  refine lv_if_eq (tgt := 101) b.1 b.2.1 dX12_tellLaw_55 (by decide) (fun c54 => ?_) (fun c54 => ?_)
  · have hf := oI_t c54 hf
    exact wfX12_tellLaw_101 b hlk hr zs zk  hf hE (lv_sub hl [3, 2, 1, 0] rfl)
  · have hf := oI_f c54 hf
    refine lv_aload_n b.1 b.2.1 dX12_tellLaw_58 rfl (lv_at hl 3 rfl) ?_
    obtain ⟨h56, hc55, hf⟩ := oB_s hf
    refine k_callV0 (C := RX12) b zs zk hE (CX12_next l D aC ad zk hc55) mc_X12_next (in7 117 rfl rfl) mi_X12_next ms_X12_next ini_RX12 ok_X12_next (m_recv b hE) ⟨Nat.le_of_ble_eq_true rfl, Nat.le_of_ble_eq_true rfl⟩ rfl hl.1 rfl (k_room _ (by exact Nat.le_of_ble_eq_true rfl)) ⟨Nat.le_refl _, Nat.le_refl _⟩ dX12_tellLaw_59 (fun H locs hE => ?_)
    refine lv_aload_n b.1 b.2.1 dX12_tellLaw_62 rfl (lv_at hl 3 rfl) ?_
    refine k_ldcw (v := 999999) b (in7 148 rfl rfl) dX12_tellLaw_63 ?_
    obtain ⟨h59, r58, hc57, hf⟩ := oB2_s hf
    refine k_callV0 (C := RX12) b zs zk hE (CX12_whole l D aC ad zk hc57) mc_X12_whole (in7 140 rfl rfl) mi_X12_whole ms_X12_whole ini_RX12 ok_X12_whole (m_recv b hE) ⟨Nat.le_of_ble_eq_true rfl, Nat.le_of_ble_eq_true rfl⟩ rfl hl.1 rfl (k_room _ (by exact Nat.le_of_ble_eq_true rfl)) ⟨Nat.le_refl _, Nat.le_refl _⟩ dX12_tellLaw_66 (fun H locs hE => ?_)
    refine lv_istore (lv' := [(4, .int r58), (3, .int r50), (2, .int r45), (0, .ref (ad 116))]) b.1 b.2.1 dX12_tellLaw_69 hl (by decide) rfl (fun ls hl => ?_)
    refine lv_aload_n b.1 b.2.1 dX12_tellLaw_71 rfl (lv_at hl 3 rfl) ?_
    refine gM_294 b hE dX12_tellLaw_72 ?_
    refine lv_if_ne (tgt := 101) b.1 b.2.1 dX12_tellLaw_75 (by decide) (fun c60 => ?_) (fun c60 => ?_)
    · have hf := oI_f c60 hf
      exact wfX12_tellLaw_101 b hlk hr zs zk  hf hE (lv_sub hl [3, 2, 1, 0] rfl)
    · have hf := oI_t c60 hf
      refine lv_aload_n b.1 b.2.1 dX12_tellLaw_78 rfl (lv_at hl 3 rfl) ?_
      refine gM_27 b hE dX12_tellLaw_79 ?_
      refine lv_iload b.1 b.2.1 dX12_tellLaw_82 (lv_at hl 0 rfl) ?_
      obtain ⟨g61, hf⟩ := oC_s hf
      refine m_iald b hE rfl rfl g61 dX12_tellLaw_84 ?_
      refine lv_aload_n b.1 b.2.1 dX12_tellLaw_85 rfl (lv_at hl 3 rfl) ?_
      refine gM_27 b hE dX12_tellLaw_86 ?_
      refine lv_iload_n b.1 b.2.1 dX12_tellLaw_89 rfl (lv_at hl 1 rfl) ?_
      obtain ⟨g62, hf⟩ := oC_s hf
      refine m_iald b hE rfl rfl g62 dX12_tellLaw_90 ?_
      refine lv_icmp_gt (tgt := 101) b.1 b.2.1 dX12_tellLaw_91 (by decide) (fun c63 => ?_) (fun c63 => ?_)
      · have hf := oI_t c63 hf
        exact wfX12_tellLaw_101 b hlk hr zs zk  hf hE (lv_sub hl [3, 2, 1, 0] rfl)
      · have hf := oI_f c63 hf
        refine lv_aload_n b.1 b.2.1 dX12_tellLaw_94 rfl (lv_at hl 3 rfl) ?_
        refine lv_iconst (v := 5) b.1 b.2.1 dX12_tellLaw_95 (by decide) ?_
        refine lv_iload b.1 b.2.1 dX12_tellLaw_96 (lv_at hl 0 rfl) ?_
        obtain ⟨h65, hc64, hf⟩ := oB_s hf
        refine k_callV0 (C := RX12) b zs zk hE (CX12_wrong l D aC ad zk hc64) mc_X12_wrong (in7 136 rfl rfl) mi_X12_wrong ms_X12_wrong ini_RX12 ok_X12_wrong (m_recv b hE) ⟨Nat.le_of_ble_eq_true rfl, Nat.le_of_ble_eq_true rfl⟩ rfl hl.1 rfl (k_room _ (by exact Nat.le_of_ble_eq_true rfl)) ⟨Nat.le_refl _, Nat.le_refl _⟩ dX12_tellLaw_98 (fun H locs hE => ?_)
        exact wfX12_tellLaw_101 b hlk hr zs zk  hf hE (lv_sub hl [3, 2, 1, 0] rfl)
def fX12_tellLaw (h : MS) : Option (MS) := fX12_tellLaw_0 h 
set_option maxHeartbeats 4000000 in
theorem CX12_tellLaw (l : Launch) (D : va_G) (aC : Nat → ClassId) (ad : Nat → Nat) {Z : State → Prop} (zk : ZOK Z (Rg ad)) {h : MS} {hz : MS} (hf : fX12_tellLaw h = some hz) : CM l D aC Z yX12_tellLaw cX12_tellLaw 6 (none) 8 177 0 0 (EM D aC ad h) [.ref (ad 116)] (EM D aC ad hz) none (Rg ad) := by
  refine CM.of rfl ?_
  intro p e s m below meth c b hr hlk hin2 zs hE
  refine k_ent (Nat.le_of_ble_eq_true rfl) (fun ls hl => ?_)
  exact wfX12_tellLaw_0 b hlk hr zs zk hf hE (lv_sub hl [0] rfl)
end
