theorem dL_law_0 : decode code 0 = .ok (.new 7, 3) := by decide +kernel
theorem dL_law_3 : decode code 3 = .ok (.dup, 1) := by decide +kernel
theorem dL_law_4 : decode code 4 = .ok (.invokespecial 9, 3) := by decide +kernel
theorem dL_law_7 : decode code 7 = .ok (.astore_n 1, 1) := by decide +kernel
theorem dL_law_8 : decode code 8 = .ok (.new 10, 3) := by decide +kernel
theorem dL_law_11 : decode code 11 = .ok (.dup, 1) := by decide +kernel
theorem dL_law_12 : decode code 12 = .ok (.invokespecial 12, 3) := by decide +kernel
theorem dL_law_15 : decode code 15 = .ok (.astore_n 2, 1) := by decide +kernel
theorem dL_law_16 : decode code 16 = .ok (.iconst 0, 1) := by decide +kernel
theorem dL_law_17 : decode code 17 = .ok (.istore_n 3, 1) := by decide +kernel
theorem dL_law_18 : decode code 18 = .ok (.iload_n 3, 1) := by decide +kernel
theorem dL_law_19 : decode code 19 = .ok (.aload_n 0, 1) := by decide +kernel
theorem dL_law_20 : decode code 20 = .ok (.arraylength, 1) := by decide +kernel
theorem dL_law_21 : decode code 21 = .ok (.bipush 8, 2) := by decide +kernel
theorem dL_law_23 : decode code 23 = .ok (.isub, 1) := by decide +kernel
theorem dL_law_24 : decode code 24 = .ok (.if_icmp .gt 762, 3) := by decide +kernel
theorem dL_law_27 : decode code 27 = .ok (.aload_n 0, 1) := by decide +kernel
theorem dL_law_28 : decode code 28 = .ok (.iload_n 3, 1) := by decide +kernel
theorem dL_law_29 : decode code 29 = .ok (.iaload, 1) := by decide +kernel
theorem dL_law_30 : decode code 30 = .ok (.bipush 31, 2) := by decide +kernel
theorem dL_law_32 : decode code 32 = .ok (.iand, 1) := by decide +kernel
theorem dL_law_33 : decode code 33 = .ok (.tableswitch 747 0 16 #[83, 146, 169, 182, 195, 218, 321, 364, 397, 466, 545, 589, 602, 625, 658, 691, 724], 83) := by decide +kernel
theorem dL_law_116 : decode code 116 = .ok (.aload_n 1, 1) := by decide +kernel
theorem dL_law_117 : decode code 117 = .ok (.aload_n 0, 1) := by decide +kernel
theorem dL_law_118 : decode code 118 = .ok (.iload_n 3, 1) := by decide +kernel
theorem dL_law_119 : decode code 119 = .ok (.iconst 1, 1) := by decide +kernel
theorem dL_law_120 : decode code 120 = .ok (.iadd, 1) := by decide +kernel
theorem dL_law_121 : decode code 121 = .ok (.iaload, 1) := by decide +kernel
theorem dL_law_122 : decode code 122 = .ok (.aload_n 0, 1) := by decide +kernel
theorem dL_law_123 : decode code 123 = .ok (.iload_n 3, 1) := by decide +kernel
theorem dL_law_124 : decode code 124 = .ok (.iconst 2, 1) := by decide +kernel
theorem dL_law_125 : decode code 125 = .ok (.iadd, 1) := by decide +kernel
theorem dL_law_126 : decode code 126 = .ok (.iaload, 1) := by decide +kernel
theorem dL_law_127 : decode code 127 = .ok (.aload_n 0, 1) := by decide +kernel
theorem dL_law_128 : decode code 128 = .ok (.iload_n 3, 1) := by decide +kernel
theorem dL_law_129 : decode code 129 = .ok (.iconst 3, 1) := by decide +kernel
theorem dL_law_130 : decode code 130 = .ok (.iadd, 1) := by decide +kernel
theorem dL_law_131 : decode code 131 = .ok (.iaload, 1) := by decide +kernel
theorem dL_law_132 : decode code 132 = .ok (.aload_n 0, 1) := by decide +kernel
theorem dL_law_133 : decode code 133 = .ok (.iload_n 3, 1) := by decide +kernel
theorem dL_law_134 : decode code 134 = .ok (.iconst 4, 1) := by decide +kernel
theorem dL_law_135 : decode code 135 = .ok (.iadd, 1) := by decide +kernel
theorem dL_law_136 : decode code 136 = .ok (.iaload, 1) := by decide +kernel
theorem dL_law_137 : decode code 137 = .ok (.aload_n 0, 1) := by decide +kernel
theorem dL_law_138 : decode code 138 = .ok (.iload_n 3, 1) := by decide +kernel
theorem dL_law_139 : decode code 139 = .ok (.iconst 5, 1) := by decide +kernel
theorem dL_law_140 : decode code 140 = .ok (.iadd, 1) := by decide +kernel
theorem dL_law_141 : decode code 141 = .ok (.iaload, 1) := by decide +kernel
theorem dL_law_142 : decode code 142 = .ok (.invokevirtual 13, 3) := by decide +kernel
theorem dL_law_145 : decode code 145 = .ok (.aload_n 2, 1) := by decide +kernel
theorem dL_law_146 : decode code 146 = .ok (.aload_n 0, 1) := by decide +kernel
theorem dL_law_147 : decode code 147 = .ok (.iload_n 3, 1) := by decide +kernel
theorem dL_law_148 : decode code 148 = .ok (.iconst 1, 1) := by decide +kernel
theorem dL_law_149 : decode code 149 = .ok (.iadd, 1) := by decide +kernel
theorem dL_law_150 : decode code 150 = .ok (.iaload, 1) := by decide +kernel
theorem dL_law_151 : decode code 151 = .ok (.aload_n 0, 1) := by decide +kernel
theorem dL_law_152 : decode code 152 = .ok (.iload_n 3, 1) := by decide +kernel
theorem dL_law_153 : decode code 153 = .ok (.iconst 2, 1) := by decide +kernel
theorem dL_law_154 : decode code 154 = .ok (.iadd, 1) := by decide +kernel
theorem dL_law_155 : decode code 155 = .ok (.iaload, 1) := by decide +kernel
theorem dL_law_156 : decode code 156 = .ok (.aload_n 0, 1) := by decide +kernel
theorem dL_law_157 : decode code 157 = .ok (.iload_n 3, 1) := by decide +kernel
theorem dL_law_158 : decode code 158 = .ok (.iconst 3, 1) := by decide +kernel
theorem dL_law_159 : decode code 159 = .ok (.iadd, 1) := by decide +kernel
theorem dL_law_160 : decode code 160 = .ok (.iaload, 1) := by decide +kernel
theorem dL_law_161 : decode code 161 = .ok (.aload_n 0, 1) := by decide +kernel
theorem dL_law_162 : decode code 162 = .ok (.iload_n 3, 1) := by decide +kernel
theorem dL_law_163 : decode code 163 = .ok (.iconst 4, 1) := by decide +kernel
theorem dL_law_164 : decode code 164 = .ok (.iadd, 1) := by decide +kernel
theorem dL_law_165 : decode code 165 = .ok (.iaload, 1) := by decide +kernel
theorem dL_law_166 : decode code 166 = .ok (.aload_n 0, 1) := by decide +kernel
theorem dL_law_167 : decode code 167 = .ok (.iload_n 3, 1) := by decide +kernel
theorem dL_law_168 : decode code 168 = .ok (.iconst 5, 1) := by decide +kernel
theorem dL_law_169 : decode code 169 = .ok (.iadd, 1) := by decide +kernel
theorem dL_law_170 : decode code 170 = .ok (.iaload, 1) := by decide +kernel
theorem dL_law_171 : decode code 171 = .ok (.invokevirtual 17, 3) := by decide +kernel
theorem dL_law_174 : decode code 174 = .ok (.if_icmp .eq 606, 3) := by decide +kernel
theorem dL_law_177 : decode code 177 = .ok (.iconst 0, 1) := by decide +kernel
theorem dL_law_178 : decode code 178 = .ok (.ireturn, 1) := by decide +kernel
theorem dL_law_179 : decode code 179 = .ok (.aload_n 1, 1) := by decide +kernel
theorem dL_law_180 : decode code 180 = .ok (.aload_n 0, 1) := by decide +kernel
theorem dL_law_181 : decode code 181 = .ok (.iload_n 3, 1) := by decide +kernel
theorem dL_law_182 : decode code 182 = .ok (.iconst 1, 1) := by decide +kernel
theorem dL_law_183 : decode code 183 = .ok (.iadd, 1) := by decide +kernel
theorem dL_law_184 : decode code 184 = .ok (.iaload, 1) := by decide +kernel
theorem dL_law_185 : decode code 185 = .ok (.invokevirtual 18, 3) := by decide +kernel
theorem dL_law_188 : decode code 188 = .ok (.aload_n 2, 1) := by decide +kernel
theorem dL_law_189 : decode code 189 = .ok (.aload_n 0, 1) := by decide +kernel
theorem dL_law_190 : decode code 190 = .ok (.iload_n 3, 1) := by decide +kernel
theorem dL_law_191 : decode code 191 = .ok (.iconst 1, 1) := by decide +kernel
theorem dL_law_192 : decode code 192 = .ok (.iadd, 1) := by decide +kernel
theorem dL_law_193 : decode code 193 = .ok (.iaload, 1) := by decide +kernel
theorem dL_law_194 : decode code 194 = .ok (.invokevirtual 22, 3) := by decide +kernel
theorem dL_law_197 : decode code 197 = .ok (.if_icmp .eq 583, 3) := by decide +kernel
theorem dL_law_200 : decode code 200 = .ok (.iconst 0, 1) := by decide +kernel
theorem dL_law_201 : decode code 201 = .ok (.ireturn, 1) := by decide +kernel
theorem dL_law_202 : decode code 202 = .ok (.aload_n 1, 1) := by decide +kernel
theorem dL_law_203 : decode code 203 = .ok (.invokevirtual 23, 3) := by decide +kernel
theorem dL_law_206 : decode code 206 = .ok (.aload_n 2, 1) := by decide +kernel
theorem dL_law_207 : decode code 207 = .ok (.invokevirtual 27, 3) := by decide +kernel
theorem dL_law_210 : decode code 210 = .ok (.if_icmp .eq 570, 3) := by decide +kernel
theorem dL_law_213 : decode code 213 = .ok (.iconst 0, 1) := by decide +kernel
theorem dL_law_214 : decode code 214 = .ok (.ireturn, 1) := by decide +kernel
theorem dL_law_215 : decode code 215 = .ok (.aload_n 1, 1) := by decide +kernel
theorem dL_law_216 : decode code 216 = .ok (.invokevirtual 28, 3) := by decide +kernel
theorem dL_law_219 : decode code 219 = .ok (.aload_n 2, 1) := by decide +kernel
theorem dL_law_220 : decode code 220 = .ok (.invokevirtual 31, 3) := by decide +kernel
theorem dL_law_223 : decode code 223 = .ok (.if_icmp .eq 557, 3) := by decide +kernel
theorem dL_law_226 : decode code 226 = .ok (.iconst 0, 1) := by decide +kernel
theorem dL_law_227 : decode code 227 = .ok (.ireturn, 1) := by decide +kernel
theorem dL_law_228 : decode code 228 = .ok (.aload_n 1, 1) := by decide +kernel
theorem dL_law_229 : decode code 229 = .ok (.aload_n 0, 1) := by decide +kernel
theorem dL_law_230 : decode code 230 = .ok (.iload_n 3, 1) := by decide +kernel
theorem dL_law_231 : decode code 231 = .ok (.iconst 1, 1) := by decide +kernel
theorem dL_law_232 : decode code 232 = .ok (.iadd, 1) := by decide +kernel
theorem dL_law_233 : decode code 233 = .ok (.iaload, 1) := by decide +kernel
theorem dL_law_234 : decode code 234 = .ok (.invokevirtual 32, 3) := by decide +kernel
theorem dL_law_237 : decode code 237 = .ok (.aload_n 2, 1) := by decide +kernel
theorem dL_law_238 : decode code 238 = .ok (.aload_n 0, 1) := by decide +kernel
theorem dL_law_239 : decode code 239 = .ok (.iload_n 3, 1) := by decide +kernel
theorem dL_law_240 : decode code 240 = .ok (.iconst 1, 1) := by decide +kernel
theorem dL_law_241 : decode code 241 = .ok (.iadd, 1) := by decide +kernel
theorem dL_law_242 : decode code 242 = .ok (.iaload, 1) := by decide +kernel
theorem dL_law_243 : decode code 243 = .ok (.invokevirtual 36, 3) := by decide +kernel
theorem dL_law_246 : decode code 246 = .ok (.if_icmp .eq 534, 3) := by decide +kernel
theorem dL_law_249 : decode code 249 = .ok (.iconst 0, 1) := by decide +kernel
theorem dL_law_250 : decode code 250 = .ok (.ireturn, 1) := by decide +kernel
theorem dL_law_251 : decode code 251 = .ok (.aload_n 1, 1) := by decide +kernel
theorem dL_law_252 : decode code 252 = .ok (.aload_n 0, 1) := by decide +kernel
theorem dL_law_253 : decode code 253 = .ok (.iload_n 3, 1) := by decide +kernel
theorem dL_law_254 : decode code 254 = .ok (.iconst 1, 1) := by decide +kernel
theorem dL_law_255 : decode code 255 = .ok (.iadd, 1) := by decide +kernel
theorem dL_law_256 : decode code 256 = .ok (.iaload, 1) := by decide +kernel
theorem dL_law_257 : decode code 257 = .ok (.aload_n 0, 1) := by decide +kernel
theorem dL_law_258 : decode code 258 = .ok (.iload_n 3, 1) := by decide +kernel
theorem dL_law_259 : decode code 259 = .ok (.iconst 2, 1) := by decide +kernel
theorem dL_law_260 : decode code 260 = .ok (.iadd, 1) := by decide +kernel
theorem dL_law_261 : decode code 261 = .ok (.iaload, 1) := by decide +kernel
theorem dL_law_262 : decode code 262 = .ok (.ifCond .eq 7, 3) := by decide +kernel
theorem dL_law_265 : decode code 265 = .ok (.iconst 1, 1) := by decide +kernel
theorem dL_law_266 : decode code 266 = .ok (.goto 4, 3) := by decide +kernel
theorem dL_law_269 : decode code 269 = .ok (.iconst 0, 1) := by decide +kernel
theorem dL_law_270 : decode code 270 = .ok (.aload_n 0, 1) := by decide +kernel
theorem dL_law_271 : decode code 271 = .ok (.iload_n 3, 1) := by decide +kernel
theorem dL_law_272 : decode code 272 = .ok (.iconst 3, 1) := by decide +kernel
theorem dL_law_273 : decode code 273 = .ok (.iadd, 1) := by decide +kernel
theorem dL_law_274 : decode code 274 = .ok (.iaload, 1) := by decide +kernel
theorem dL_law_275 : decode code 275 = .ok (.aload_n 0, 1) := by decide +kernel
theorem dL_law_276 : decode code 276 = .ok (.iload_n 3, 1) := by decide +kernel
theorem dL_law_277 : decode code 277 = .ok (.iconst 4, 1) := by decide +kernel
theorem dL_law_278 : decode code 278 = .ok (.iadd, 1) := by decide +kernel
theorem dL_law_279 : decode code 279 = .ok (.iaload, 1) := by decide +kernel
theorem dL_law_280 : decode code 280 = .ok (.aload_n 0, 1) := by decide +kernel
theorem dL_law_281 : decode code 281 = .ok (.iload_n 3, 1) := by decide +kernel
theorem dL_law_282 : decode code 282 = .ok (.iconst 5, 1) := by decide +kernel
theorem dL_law_283 : decode code 283 = .ok (.iadd, 1) := by decide +kernel
theorem dL_law_284 : decode code 284 = .ok (.iaload, 1) := by decide +kernel
theorem dL_law_285 : decode code 285 = .ok (.aload_n 0, 1) := by decide +kernel
theorem dL_law_286 : decode code 286 = .ok (.iload_n 3, 1) := by decide +kernel
theorem dL_law_287 : decode code 287 = .ok (.bipush 6, 2) := by decide +kernel
theorem dL_law_289 : decode code 289 = .ok (.iadd, 1) := by decide +kernel
theorem dL_law_290 : decode code 290 = .ok (.iaload, 1) := by decide +kernel
theorem dL_law_291 : decode code 291 = .ok (.aload_n 0, 1) := by decide +kernel
theorem dL_law_292 : decode code 292 = .ok (.iload_n 3, 1) := by decide +kernel
theorem dL_law_293 : decode code 293 = .ok (.bipush 7, 2) := by decide +kernel
theorem dL_law_295 : decode code 295 = .ok (.iadd, 1) := by decide +kernel
theorem dL_law_296 : decode code 296 = .ok (.iaload, 1) := by decide +kernel
theorem dL_law_297 : decode code 297 = .ok (.invokevirtual 37, 3) := by decide +kernel
theorem dL_law_300 : decode code 300 = .ok (.aload_n 2, 1) := by decide +kernel
theorem dL_law_301 : decode code 301 = .ok (.aload_n 0, 1) := by decide +kernel
theorem dL_law_302 : decode code 302 = .ok (.iload_n 3, 1) := by decide +kernel
theorem dL_law_303 : decode code 303 = .ok (.iconst 1, 1) := by decide +kernel
theorem dL_law_304 : decode code 304 = .ok (.iadd, 1) := by decide +kernel
theorem dL_law_305 : decode code 305 = .ok (.iaload, 1) := by decide +kernel
theorem dL_law_306 : decode code 306 = .ok (.aload_n 0, 1) := by decide +kernel
theorem dL_law_307 : decode code 307 = .ok (.iload_n 3, 1) := by decide +kernel
theorem dL_law_308 : decode code 308 = .ok (.iconst 2, 1) := by decide +kernel
theorem dL_law_309 : decode code 309 = .ok (.iadd, 1) := by decide +kernel
theorem dL_law_310 : decode code 310 = .ok (.iaload, 1) := by decide +kernel
theorem dL_law_311 : decode code 311 = .ok (.ifCond .eq 7, 3) := by decide +kernel
theorem dL_law_314 : decode code 314 = .ok (.iconst 1, 1) := by decide +kernel
theorem dL_law_315 : decode code 315 = .ok (.goto 4, 3) := by decide +kernel
theorem dL_law_318 : decode code 318 = .ok (.iconst 0, 1) := by decide +kernel
theorem dL_law_319 : decode code 319 = .ok (.aload_n 0, 1) := by decide +kernel
theorem dL_law_320 : decode code 320 = .ok (.iload_n 3, 1) := by decide +kernel
theorem dL_law_321 : decode code 321 = .ok (.iconst 3, 1) := by decide +kernel
theorem dL_law_322 : decode code 322 = .ok (.iadd, 1) := by decide +kernel
theorem dL_law_323 : decode code 323 = .ok (.iaload, 1) := by decide +kernel
theorem dL_law_324 : decode code 324 = .ok (.aload_n 0, 1) := by decide +kernel
theorem dL_law_325 : decode code 325 = .ok (.iload_n 3, 1) := by decide +kernel
theorem dL_law_326 : decode code 326 = .ok (.iconst 4, 1) := by decide +kernel
theorem dL_law_327 : decode code 327 = .ok (.iadd, 1) := by decide +kernel
theorem dL_law_328 : decode code 328 = .ok (.iaload, 1) := by decide +kernel
theorem dL_law_329 : decode code 329 = .ok (.aload_n 0, 1) := by decide +kernel
theorem dL_law_330 : decode code 330 = .ok (.iload_n 3, 1) := by decide +kernel
theorem dL_law_331 : decode code 331 = .ok (.iconst 5, 1) := by decide +kernel
theorem dL_law_332 : decode code 332 = .ok (.iadd, 1) := by decide +kernel
theorem dL_law_333 : decode code 333 = .ok (.iaload, 1) := by decide +kernel
theorem dL_law_334 : decode code 334 = .ok (.aload_n 0, 1) := by decide +kernel
theorem dL_law_335 : decode code 335 = .ok (.iload_n 3, 1) := by decide +kernel
theorem dL_law_336 : decode code 336 = .ok (.bipush 6, 2) := by decide +kernel
theorem dL_law_338 : decode code 338 = .ok (.iadd, 1) := by decide +kernel
theorem dL_law_339 : decode code 339 = .ok (.iaload, 1) := by decide +kernel
theorem dL_law_340 : decode code 340 = .ok (.aload_n 0, 1) := by decide +kernel
theorem dL_law_341 : decode code 341 = .ok (.iload_n 3, 1) := by decide +kernel
theorem dL_law_342 : decode code 342 = .ok (.bipush 7, 2) := by decide +kernel
theorem dL_law_344 : decode code 344 = .ok (.iadd, 1) := by decide +kernel
theorem dL_law_345 : decode code 345 = .ok (.iaload, 1) := by decide +kernel
theorem dL_law_346 : decode code 346 = .ok (.invokevirtual 41, 3) := by decide +kernel
theorem dL_law_349 : decode code 349 = .ok (.if_icmp .eq 431, 3) := by decide +kernel
theorem dL_law_352 : decode code 352 = .ok (.iconst 0, 1) := by decide +kernel
theorem dL_law_353 : decode code 353 = .ok (.ireturn, 1) := by decide +kernel
theorem dL_law_354 : decode code 354 = .ok (.aload_n 1, 1) := by decide +kernel
theorem dL_law_355 : decode code 355 = .ok (.aload_n 0, 1) := by decide +kernel
theorem dL_law_356 : decode code 356 = .ok (.iload_n 3, 1) := by decide +kernel
theorem dL_law_357 : decode code 357 = .ok (.iconst 1, 1) := by decide +kernel
theorem dL_law_358 : decode code 358 = .ok (.iadd, 1) := by decide +kernel
theorem dL_law_359 : decode code 359 = .ok (.iaload, 1) := by decide +kernel
theorem dL_law_360 : decode code 360 = .ok (.aload_n 0, 1) := by decide +kernel
theorem dL_law_361 : decode code 361 = .ok (.iload_n 3, 1) := by decide +kernel
theorem dL_law_362 : decode code 362 = .ok (.iconst 2, 1) := by decide +kernel
theorem dL_law_363 : decode code 363 = .ok (.iadd, 1) := by decide +kernel
theorem dL_law_364 : decode code 364 = .ok (.iaload, 1) := by decide +kernel
theorem dL_law_365 : decode code 365 = .ok (.aload_n 0, 1) := by decide +kernel
theorem dL_law_366 : decode code 366 = .ok (.iload_n 3, 1) := by decide +kernel
theorem dL_law_367 : decode code 367 = .ok (.iconst 3, 1) := by decide +kernel
theorem dL_law_368 : decode code 368 = .ok (.iadd, 1) := by decide +kernel
theorem dL_law_369 : decode code 369 = .ok (.iaload, 1) := by decide +kernel
theorem dL_law_370 : decode code 370 = .ok (.invokevirtual 42, 3) := by decide +kernel
theorem dL_law_373 : decode code 373 = .ok (.aload_n 2, 1) := by decide +kernel
theorem dL_law_374 : decode code 374 = .ok (.aload_n 0, 1) := by decide +kernel
theorem dL_law_375 : decode code 375 = .ok (.iload_n 3, 1) := by decide +kernel
theorem dL_law_376 : decode code 376 = .ok (.iconst 1, 1) := by decide +kernel
theorem dL_law_377 : decode code 377 = .ok (.iadd, 1) := by decide +kernel
theorem dL_law_378 : decode code 378 = .ok (.iaload, 1) := by decide +kernel
theorem dL_law_379 : decode code 379 = .ok (.aload_n 0, 1) := by decide +kernel
theorem dL_law_380 : decode code 380 = .ok (.iload_n 3, 1) := by decide +kernel
theorem dL_law_381 : decode code 381 = .ok (.iconst 2, 1) := by decide +kernel
theorem dL_law_382 : decode code 382 = .ok (.iadd, 1) := by decide +kernel
theorem dL_law_383 : decode code 383 = .ok (.iaload, 1) := by decide +kernel
theorem dL_law_384 : decode code 384 = .ok (.aload_n 0, 1) := by decide +kernel
theorem dL_law_385 : decode code 385 = .ok (.iload_n 3, 1) := by decide +kernel
theorem dL_law_386 : decode code 386 = .ok (.iconst 3, 1) := by decide +kernel
theorem dL_law_387 : decode code 387 = .ok (.iadd, 1) := by decide +kernel
theorem dL_law_388 : decode code 388 = .ok (.iaload, 1) := by decide +kernel
theorem dL_law_389 : decode code 389 = .ok (.invokevirtual 46, 3) := by decide +kernel
theorem dL_law_392 : decode code 392 = .ok (.if_icmp .eq 388, 3) := by decide +kernel
theorem dL_law_395 : decode code 395 = .ok (.iconst 0, 1) := by decide +kernel
theorem dL_law_396 : decode code 396 = .ok (.ireturn, 1) := by decide +kernel
theorem dL_law_397 : decode code 397 = .ok (.aload_n 1, 1) := by decide +kernel
theorem dL_law_398 : decode code 398 = .ok (.aload_n 0, 1) := by decide +kernel
theorem dL_law_399 : decode code 399 = .ok (.iload_n 3, 1) := by decide +kernel
theorem dL_law_400 : decode code 400 = .ok (.iconst 1, 1) := by decide +kernel
theorem dL_law_401 : decode code 401 = .ok (.iadd, 1) := by decide +kernel
theorem dL_law_402 : decode code 402 = .ok (.iaload, 1) := by decide +kernel
theorem dL_law_403 : decode code 403 = .ok (.aload_n 0, 1) := by decide +kernel
theorem dL_law_404 : decode code 404 = .ok (.iload_n 3, 1) := by decide +kernel
theorem dL_law_405 : decode code 405 = .ok (.iconst 2, 1) := by decide +kernel
theorem dL_law_406 : decode code 406 = .ok (.iadd, 1) := by decide +kernel
theorem dL_law_407 : decode code 407 = .ok (.iaload, 1) := by decide +kernel
theorem dL_law_408 : decode code 408 = .ok (.invokevirtual 47, 3) := by decide +kernel
theorem dL_law_411 : decode code 411 = .ok (.aload_n 2, 1) := by decide +kernel
theorem dL_law_412 : decode code 412 = .ok (.aload_n 0, 1) := by decide +kernel
theorem dL_law_413 : decode code 413 = .ok (.iload_n 3, 1) := by decide +kernel
theorem dL_law_414 : decode code 414 = .ok (.iconst 1, 1) := by decide +kernel
theorem dL_law_415 : decode code 415 = .ok (.iadd, 1) := by decide +kernel
theorem dL_law_416 : decode code 416 = .ok (.iaload, 1) := by decide +kernel
theorem dL_law_417 : decode code 417 = .ok (.aload_n 0, 1) := by decide +kernel
theorem dL_law_418 : decode code 418 = .ok (.iload_n 3, 1) := by decide +kernel
theorem dL_law_419 : decode code 419 = .ok (.iconst 2, 1) := by decide +kernel
theorem dL_law_420 : decode code 420 = .ok (.iadd, 1) := by decide +kernel
theorem dL_law_421 : decode code 421 = .ok (.iaload, 1) := by decide +kernel
theorem dL_law_422 : decode code 422 = .ok (.invokevirtual 51, 3) := by decide +kernel
theorem dL_law_425 : decode code 425 = .ok (.if_icmp .eq 355, 3) := by decide +kernel
theorem dL_law_428 : decode code 428 = .ok (.iconst 0, 1) := by decide +kernel
theorem dL_law_429 : decode code 429 = .ok (.ireturn, 1) := by decide +kernel
theorem dL_law_430 : decode code 430 = .ok (.aload_n 1, 1) := by decide +kernel
theorem dL_law_431 : decode code 431 = .ok (.aload_n 0, 1) := by decide +kernel
theorem dL_law_432 : decode code 432 = .ok (.iload_n 3, 1) := by decide +kernel
theorem dL_law_433 : decode code 433 = .ok (.iconst 1, 1) := by decide +kernel
theorem dL_law_434 : decode code 434 = .ok (.iadd, 1) := by decide +kernel
theorem dL_law_435 : decode code 435 = .ok (.iaload, 1) := by decide +kernel
theorem dL_law_436 : decode code 436 = .ok (.aload_n 0, 1) := by decide +kernel
theorem dL_law_437 : decode code 437 = .ok (.iload_n 3, 1) := by decide +kernel
theorem dL_law_438 : decode code 438 = .ok (.iconst 2, 1) := by decide +kernel
theorem dL_law_439 : decode code 439 = .ok (.iadd, 1) := by decide +kernel
theorem dL_law_440 : decode code 440 = .ok (.iaload, 1) := by decide +kernel
theorem dL_law_441 : decode code 441 = .ok (.ifCond .eq 7, 3) := by decide +kernel
theorem dL_law_444 : decode code 444 = .ok (.iconst 1, 1) := by decide +kernel
theorem dL_law_445 : decode code 445 = .ok (.goto 4, 3) := by decide +kernel
theorem dL_law_448 : decode code 448 = .ok (.iconst 0, 1) := by decide +kernel
theorem dL_law_449 : decode code 449 = .ok (.aload_n 0, 1) := by decide +kernel
theorem dL_law_450 : decode code 450 = .ok (.iload_n 3, 1) := by decide +kernel
theorem dL_law_451 : decode code 451 = .ok (.iconst 3, 1) := by decide +kernel
theorem dL_law_452 : decode code 452 = .ok (.iadd, 1) := by decide +kernel
theorem dL_law_453 : decode code 453 = .ok (.iaload, 1) := by decide +kernel
theorem dL_law_454 : decode code 454 = .ok (.aload_n 0, 1) := by decide +kernel
theorem dL_law_455 : decode code 455 = .ok (.iload_n 3, 1) := by decide +kernel
theorem dL_law_456 : decode code 456 = .ok (.iconst 4, 1) := by decide +kernel
theorem dL_law_457 : decode code 457 = .ok (.iadd, 1) := by decide +kernel
theorem dL_law_458 : decode code 458 = .ok (.iaload, 1) := by decide +kernel
theorem dL_law_459 : decode code 459 = .ok (.invokevirtual 52, 3) := by decide +kernel
theorem dL_law_462 : decode code 462 = .ok (.aload_n 2, 1) := by decide +kernel
theorem dL_law_463 : decode code 463 = .ok (.aload_n 0, 1) := by decide +kernel
theorem dL_law_464 : decode code 464 = .ok (.iload_n 3, 1) := by decide +kernel
theorem dL_law_465 : decode code 465 = .ok (.iconst 1, 1) := by decide +kernel
theorem dL_law_466 : decode code 466 = .ok (.iadd, 1) := by decide +kernel
theorem dL_law_467 : decode code 467 = .ok (.iaload, 1) := by decide +kernel
theorem dL_law_468 : decode code 468 = .ok (.aload_n 0, 1) := by decide +kernel
theorem dL_law_469 : decode code 469 = .ok (.iload_n 3, 1) := by decide +kernel
theorem dL_law_470 : decode code 470 = .ok (.iconst 2, 1) := by decide +kernel
theorem dL_law_471 : decode code 471 = .ok (.iadd, 1) := by decide +kernel
theorem dL_law_472 : decode code 472 = .ok (.iaload, 1) := by decide +kernel
theorem dL_law_473 : decode code 473 = .ok (.ifCond .eq 7, 3) := by decide +kernel
theorem dL_law_476 : decode code 476 = .ok (.iconst 1, 1) := by decide +kernel
theorem dL_law_477 : decode code 477 = .ok (.goto 4, 3) := by decide +kernel
theorem dL_law_480 : decode code 480 = .ok (.iconst 0, 1) := by decide +kernel
theorem dL_law_481 : decode code 481 = .ok (.aload_n 0, 1) := by decide +kernel
theorem dL_law_482 : decode code 482 = .ok (.iload_n 3, 1) := by decide +kernel
theorem dL_law_483 : decode code 483 = .ok (.iconst 3, 1) := by decide +kernel
theorem dL_law_484 : decode code 484 = .ok (.iadd, 1) := by decide +kernel
theorem dL_law_485 : decode code 485 = .ok (.iaload, 1) := by decide +kernel
theorem dL_law_486 : decode code 486 = .ok (.aload_n 0, 1) := by decide +kernel
theorem dL_law_487 : decode code 487 = .ok (.iload_n 3, 1) := by decide +kernel
theorem dL_law_488 : decode code 488 = .ok (.iconst 4, 1) := by decide +kernel
theorem dL_law_489 : decode code 489 = .ok (.iadd, 1) := by decide +kernel
theorem dL_law_490 : decode code 490 = .ok (.iaload, 1) := by decide +kernel
theorem dL_law_491 : decode code 491 = .ok (.invokevirtual 56, 3) := by decide +kernel
theorem dL_law_494 : decode code 494 = .ok (.if_icmp .eq 286, 3) := by decide +kernel
theorem dL_law_497 : decode code 497 = .ok (.iconst 0, 1) := by decide +kernel
theorem dL_law_498 : decode code 498 = .ok (.ireturn, 1) := by decide +kernel
theorem dL_law_499 : decode code 499 = .ok (.aload_n 1, 1) := by decide +kernel
theorem dL_law_500 : decode code 500 = .ok (.aload_n 0, 1) := by decide +kernel
theorem dL_law_501 : decode code 501 = .ok (.iload_n 3, 1) := by decide +kernel
theorem dL_law_502 : decode code 502 = .ok (.iconst 1, 1) := by decide +kernel
theorem dL_law_503 : decode code 503 = .ok (.iadd, 1) := by decide +kernel
theorem dL_law_504 : decode code 504 = .ok (.iaload, 1) := by decide +kernel
theorem dL_law_505 : decode code 505 = .ok (.aload_n 0, 1) := by decide +kernel
theorem dL_law_506 : decode code 506 = .ok (.iload_n 3, 1) := by decide +kernel
theorem dL_law_507 : decode code 507 = .ok (.iconst 2, 1) := by decide +kernel
theorem dL_law_508 : decode code 508 = .ok (.iadd, 1) := by decide +kernel
theorem dL_law_509 : decode code 509 = .ok (.iaload, 1) := by decide +kernel
theorem dL_law_510 : decode code 510 = .ok (.ifCond .eq 7, 3) := by decide +kernel
theorem dL_law_513 : decode code 513 = .ok (.iconst 1, 1) := by decide +kernel
theorem dL_law_514 : decode code 514 = .ok (.goto 4, 3) := by decide +kernel
theorem dL_law_517 : decode code 517 = .ok (.iconst 0, 1) := by decide +kernel
theorem dL_law_518 : decode code 518 = .ok (.aload_n 0, 1) := by decide +kernel
theorem dL_law_519 : decode code 519 = .ok (.iload_n 3, 1) := by decide +kernel
theorem dL_law_520 : decode code 520 = .ok (.iconst 3, 1) := by decide +kernel
theorem dL_law_521 : decode code 521 = .ok (.iadd, 1) := by decide +kernel
theorem dL_law_522 : decode code 522 = .ok (.iaload, 1) := by decide +kernel
theorem dL_law_523 : decode code 523 = .ok (.aload_n 0, 1) := by decide +kernel
theorem dL_law_524 : decode code 524 = .ok (.iload_n 3, 1) := by decide +kernel
theorem dL_law_525 : decode code 525 = .ok (.iconst 4, 1) := by decide +kernel
theorem dL_law_526 : decode code 526 = .ok (.iadd, 1) := by decide +kernel
theorem dL_law_527 : decode code 527 = .ok (.iaload, 1) := by decide +kernel
theorem dL_law_528 : decode code 528 = .ok (.aload_n 0, 1) := by decide +kernel
theorem dL_law_529 : decode code 529 = .ok (.iload_n 3, 1) := by decide +kernel
theorem dL_law_530 : decode code 530 = .ok (.iconst 5, 1) := by decide +kernel
theorem dL_law_531 : decode code 531 = .ok (.iadd, 1) := by decide +kernel
theorem dL_law_532 : decode code 532 = .ok (.iaload, 1) := by decide +kernel
theorem dL_law_533 : decode code 533 = .ok (.invokevirtual 57, 3) := by decide +kernel
theorem dL_law_536 : decode code 536 = .ok (.aload_n 2, 1) := by decide +kernel
theorem dL_law_537 : decode code 537 = .ok (.aload_n 0, 1) := by decide +kernel
theorem dL_law_538 : decode code 538 = .ok (.iload_n 3, 1) := by decide +kernel
theorem dL_law_539 : decode code 539 = .ok (.iconst 1, 1) := by decide +kernel
theorem dL_law_540 : decode code 540 = .ok (.iadd, 1) := by decide +kernel
theorem dL_law_541 : decode code 541 = .ok (.iaload, 1) := by decide +kernel
theorem dL_law_542 : decode code 542 = .ok (.aload_n 0, 1) := by decide +kernel
theorem dL_law_543 : decode code 543 = .ok (.iload_n 3, 1) := by decide +kernel
theorem dL_law_544 : decode code 544 = .ok (.iconst 2, 1) := by decide +kernel
theorem dL_law_545 : decode code 545 = .ok (.iadd, 1) := by decide +kernel
theorem dL_law_546 : decode code 546 = .ok (.iaload, 1) := by decide +kernel
theorem dL_law_547 : decode code 547 = .ok (.ifCond .eq 7, 3) := by decide +kernel
theorem dL_law_550 : decode code 550 = .ok (.iconst 1, 1) := by decide +kernel
theorem dL_law_551 : decode code 551 = .ok (.goto 4, 3) := by decide +kernel
theorem dL_law_554 : decode code 554 = .ok (.iconst 0, 1) := by decide +kernel
theorem dL_law_555 : decode code 555 = .ok (.aload_n 0, 1) := by decide +kernel
theorem dL_law_556 : decode code 556 = .ok (.iload_n 3, 1) := by decide +kernel
theorem dL_law_557 : decode code 557 = .ok (.iconst 3, 1) := by decide +kernel
theorem dL_law_558 : decode code 558 = .ok (.iadd, 1) := by decide +kernel
theorem dL_law_559 : decode code 559 = .ok (.iaload, 1) := by decide +kernel
theorem dL_law_560 : decode code 560 = .ok (.aload_n 0, 1) := by decide +kernel
theorem dL_law_561 : decode code 561 = .ok (.iload_n 3, 1) := by decide +kernel
theorem dL_law_562 : decode code 562 = .ok (.iconst 4, 1) := by decide +kernel
theorem dL_law_563 : decode code 563 = .ok (.iadd, 1) := by decide +kernel
theorem dL_law_564 : decode code 564 = .ok (.iaload, 1) := by decide +kernel
theorem dL_law_565 : decode code 565 = .ok (.aload_n 0, 1) := by decide +kernel
theorem dL_law_566 : decode code 566 = .ok (.iload_n 3, 1) := by decide +kernel
theorem dL_law_567 : decode code 567 = .ok (.iconst 5, 1) := by decide +kernel
theorem dL_law_568 : decode code 568 = .ok (.iadd, 1) := by decide +kernel
theorem dL_law_569 : decode code 569 = .ok (.iaload, 1) := by decide +kernel
theorem dL_law_570 : decode code 570 = .ok (.invokevirtual 61, 3) := by decide +kernel
theorem dL_law_573 : decode code 573 = .ok (.if_icmp .eq 207, 3) := by decide +kernel
theorem dL_law_576 : decode code 576 = .ok (.iconst 0, 1) := by decide +kernel
theorem dL_law_577 : decode code 577 = .ok (.ireturn, 1) := by decide +kernel
theorem dL_law_578 : decode code 578 = .ok (.aload_n 1, 1) := by decide +kernel
theorem dL_law_579 : decode code 579 = .ok (.aload_n 0, 1) := by decide +kernel
theorem dL_law_580 : decode code 580 = .ok (.iload_n 3, 1) := by decide +kernel
theorem dL_law_581 : decode code 581 = .ok (.iconst 1, 1) := by decide +kernel
theorem dL_law_582 : decode code 582 = .ok (.iadd, 1) := by decide +kernel
theorem dL_law_583 : decode code 583 = .ok (.iaload, 1) := by decide +kernel
theorem dL_law_584 : decode code 584 = .ok (.aload_n 0, 1) := by decide +kernel
theorem dL_law_585 : decode code 585 = .ok (.iload_n 3, 1) := by decide +kernel
theorem dL_law_586 : decode code 586 = .ok (.iconst 2, 1) := by decide +kernel
theorem dL_law_587 : decode code 587 = .ok (.iadd, 1) := by decide +kernel
theorem dL_law_588 : decode code 588 = .ok (.iaload, 1) := by decide +kernel
theorem dL_law_589 : decode code 589 = .ok (.aload_n 0, 1) := by decide +kernel
theorem dL_law_590 : decode code 590 = .ok (.iload_n 3, 1) := by decide +kernel
theorem dL_law_591 : decode code 591 = .ok (.iconst 3, 1) := by decide +kernel
theorem dL_law_592 : decode code 592 = .ok (.iadd, 1) := by decide +kernel
theorem dL_law_593 : decode code 593 = .ok (.iaload, 1) := by decide +kernel
theorem dL_law_594 : decode code 594 = .ok (.invokevirtual 62, 3) := by decide +kernel
theorem dL_law_597 : decode code 597 = .ok (.aload_n 2, 1) := by decide +kernel
theorem dL_law_598 : decode code 598 = .ok (.aload_n 0, 1) := by decide +kernel
theorem dL_law_599 : decode code 599 = .ok (.iload_n 3, 1) := by decide +kernel
theorem dL_law_600 : decode code 600 = .ok (.iconst 1, 1) := by decide +kernel
theorem dL_law_601 : decode code 601 = .ok (.iadd, 1) := by decide +kernel
theorem dL_law_602 : decode code 602 = .ok (.iaload, 1) := by decide +kernel
theorem dL_law_603 : decode code 603 = .ok (.aload_n 0, 1) := by decide +kernel
theorem dL_law_604 : decode code 604 = .ok (.iload_n 3, 1) := by decide +kernel
theorem dL_law_605 : decode code 605 = .ok (.iconst 2, 1) := by decide +kernel
theorem dL_law_606 : decode code 606 = .ok (.iadd, 1) := by decide +kernel
theorem dL_law_607 : decode code 607 = .ok (.iaload, 1) := by decide +kernel
theorem dL_law_608 : decode code 608 = .ok (.aload_n 0, 1) := by decide +kernel
theorem dL_law_609 : decode code 609 = .ok (.iload_n 3, 1) := by decide +kernel
theorem dL_law_610 : decode code 610 = .ok (.iconst 3, 1) := by decide +kernel
theorem dL_law_611 : decode code 611 = .ok (.iadd, 1) := by decide +kernel
theorem dL_law_612 : decode code 612 = .ok (.iaload, 1) := by decide +kernel
theorem dL_law_613 : decode code 613 = .ok (.invokevirtual 66, 3) := by decide +kernel
theorem dL_law_616 : decode code 616 = .ok (.lcmp, 1) := by decide +kernel
theorem dL_law_617 : decode code 617 = .ok (.ifCond .eq 163, 3) := by decide +kernel
theorem dL_law_620 : decode code 620 = .ok (.iconst 0, 1) := by decide +kernel
theorem dL_law_621 : decode code 621 = .ok (.ireturn, 1) := by decide +kernel
theorem dL_law_622 : decode code 622 = .ok (.aload_n 1, 1) := by decide +kernel
theorem dL_law_623 : decode code 623 = .ok (.invokevirtual 67, 3) := by decide +kernel
theorem dL_law_626 : decode code 626 = .ok (.aload_n 2, 1) := by decide +kernel
theorem dL_law_627 : decode code 627 = .ok (.invokevirtual 70, 3) := by decide +kernel
theorem dL_law_630 : decode code 630 = .ok (.if_icmp .eq 150, 3) := by decide +kernel
theorem dL_law_633 : decode code 633 = .ok (.iconst 0, 1) := by decide +kernel
theorem dL_law_634 : decode code 634 = .ok (.ireturn, 1) := by decide +kernel
theorem dL_law_635 : decode code 635 = .ok (.aload_n 1, 1) := by decide +kernel
theorem dL_law_636 : decode code 636 = .ok (.aload_n 0, 1) := by decide +kernel
theorem dL_law_637 : decode code 637 = .ok (.iload_n 3, 1) := by decide +kernel
theorem dL_law_638 : decode code 638 = .ok (.iconst 1, 1) := by decide +kernel
theorem dL_law_639 : decode code 639 = .ok (.iadd, 1) := by decide +kernel
theorem dL_law_640 : decode code 640 = .ok (.iaload, 1) := by decide +kernel
theorem dL_law_641 : decode code 641 = .ok (.invokevirtual 71, 3) := by decide +kernel
theorem dL_law_644 : decode code 644 = .ok (.aload_n 2, 1) := by decide +kernel
theorem dL_law_645 : decode code 645 = .ok (.aload_n 0, 1) := by decide +kernel
theorem dL_law_646 : decode code 646 = .ok (.iload_n 3, 1) := by decide +kernel
theorem dL_law_647 : decode code 647 = .ok (.iconst 1, 1) := by decide +kernel
theorem dL_law_648 : decode code 648 = .ok (.iadd, 1) := by decide +kernel
theorem dL_law_649 : decode code 649 = .ok (.iaload, 1) := by decide +kernel
theorem dL_law_650 : decode code 650 = .ok (.invokevirtual 74, 3) := by decide +kernel
theorem dL_law_653 : decode code 653 = .ok (.if_icmp .eq 127, 3) := by decide +kernel
theorem dL_law_656 : decode code 656 = .ok (.iconst 0, 1) := by decide +kernel
theorem dL_law_657 : decode code 657 = .ok (.ireturn, 1) := by decide +kernel
theorem dL_law_658 : decode code 658 = .ok (.aload_n 1, 1) := by decide +kernel
theorem dL_law_659 : decode code 659 = .ok (.aload_n 0, 1) := by decide +kernel
theorem dL_law_660 : decode code 660 = .ok (.iload_n 3, 1) := by decide +kernel
theorem dL_law_661 : decode code 661 = .ok (.iconst 1, 1) := by decide +kernel
theorem dL_law_662 : decode code 662 = .ok (.iadd, 1) := by decide +kernel
theorem dL_law_663 : decode code 663 = .ok (.iaload, 1) := by decide +kernel
theorem dL_law_664 : decode code 664 = .ok (.aload_n 0, 1) := by decide +kernel
theorem dL_law_665 : decode code 665 = .ok (.iload_n 3, 1) := by decide +kernel
theorem dL_law_666 : decode code 666 = .ok (.iconst 2, 1) := by decide +kernel
theorem dL_law_667 : decode code 667 = .ok (.iadd, 1) := by decide +kernel
theorem dL_law_668 : decode code 668 = .ok (.iaload, 1) := by decide +kernel
theorem dL_law_669 : decode code 669 = .ok (.invokevirtual 75, 3) := by decide +kernel
theorem dL_law_672 : decode code 672 = .ok (.aload_n 2, 1) := by decide +kernel
theorem dL_law_673 : decode code 673 = .ok (.aload_n 0, 1) := by decide +kernel
theorem dL_law_674 : decode code 674 = .ok (.iload_n 3, 1) := by decide +kernel
theorem dL_law_675 : decode code 675 = .ok (.iconst 1, 1) := by decide +kernel
theorem dL_law_676 : decode code 676 = .ok (.iadd, 1) := by decide +kernel
theorem dL_law_677 : decode code 677 = .ok (.iaload, 1) := by decide +kernel
theorem dL_law_678 : decode code 678 = .ok (.aload_n 0, 1) := by decide +kernel
theorem dL_law_679 : decode code 679 = .ok (.iload_n 3, 1) := by decide +kernel
theorem dL_law_680 : decode code 680 = .ok (.iconst 2, 1) := by decide +kernel
theorem dL_law_681 : decode code 681 = .ok (.iadd, 1) := by decide +kernel
theorem dL_law_682 : decode code 682 = .ok (.iaload, 1) := by decide +kernel
theorem dL_law_683 : decode code 683 = .ok (.invokevirtual 78, 3) := by decide +kernel
theorem dL_law_686 : decode code 686 = .ok (.if_icmp .eq 94, 3) := by decide +kernel
theorem dL_law_689 : decode code 689 = .ok (.iconst 0, 1) := by decide +kernel
theorem dL_law_690 : decode code 690 = .ok (.ireturn, 1) := by decide +kernel
theorem dL_law_691 : decode code 691 = .ok (.aload_n 1, 1) := by decide +kernel
theorem dL_law_692 : decode code 692 = .ok (.aload_n 0, 1) := by decide +kernel
theorem dL_law_693 : decode code 693 = .ok (.iload_n 3, 1) := by decide +kernel
theorem dL_law_694 : decode code 694 = .ok (.iconst 1, 1) := by decide +kernel
theorem dL_law_695 : decode code 695 = .ok (.iadd, 1) := by decide +kernel
theorem dL_law_696 : decode code 696 = .ok (.iaload, 1) := by decide +kernel
theorem dL_law_697 : decode code 697 = .ok (.aload_n 0, 1) := by decide +kernel
theorem dL_law_698 : decode code 698 = .ok (.iload_n 3, 1) := by decide +kernel
theorem dL_law_699 : decode code 699 = .ok (.iconst 2, 1) := by decide +kernel
theorem dL_law_700 : decode code 700 = .ok (.iadd, 1) := by decide +kernel
theorem dL_law_701 : decode code 701 = .ok (.iaload, 1) := by decide +kernel
theorem dL_law_702 : decode code 702 = .ok (.invokevirtual 79, 3) := by decide +kernel
theorem dL_law_705 : decode code 705 = .ok (.aload_n 2, 1) := by decide +kernel
theorem dL_law_706 : decode code 706 = .ok (.aload_n 0, 1) := by decide +kernel
theorem dL_law_707 : decode code 707 = .ok (.iload_n 3, 1) := by decide +kernel
theorem dL_law_708 : decode code 708 = .ok (.iconst 1, 1) := by decide +kernel
theorem dL_law_709 : decode code 709 = .ok (.iadd, 1) := by decide +kernel
theorem dL_law_710 : decode code 710 = .ok (.iaload, 1) := by decide +kernel
theorem dL_law_711 : decode code 711 = .ok (.aload_n 0, 1) := by decide +kernel
theorem dL_law_712 : decode code 712 = .ok (.iload_n 3, 1) := by decide +kernel
theorem dL_law_713 : decode code 713 = .ok (.iconst 2, 1) := by decide +kernel
theorem dL_law_714 : decode code 714 = .ok (.iadd, 1) := by decide +kernel
theorem dL_law_715 : decode code 715 = .ok (.iaload, 1) := by decide +kernel
theorem dL_law_716 : decode code 716 = .ok (.invokevirtual 82, 3) := by decide +kernel
theorem dL_law_719 : decode code 719 = .ok (.if_icmp .eq 61, 3) := by decide +kernel
theorem dL_law_722 : decode code 722 = .ok (.iconst 0, 1) := by decide +kernel
theorem dL_law_723 : decode code 723 = .ok (.ireturn, 1) := by decide +kernel
theorem dL_law_724 : decode code 724 = .ok (.aload_n 1, 1) := by decide +kernel
theorem dL_law_725 : decode code 725 = .ok (.aload_n 0, 1) := by decide +kernel
theorem dL_law_726 : decode code 726 = .ok (.iload_n 3, 1) := by decide +kernel
theorem dL_law_727 : decode code 727 = .ok (.iconst 1, 1) := by decide +kernel
theorem dL_law_728 : decode code 728 = .ok (.iadd, 1) := by decide +kernel
theorem dL_law_729 : decode code 729 = .ok (.iaload, 1) := by decide +kernel
theorem dL_law_730 : decode code 730 = .ok (.aload_n 0, 1) := by decide +kernel
theorem dL_law_731 : decode code 731 = .ok (.iload_n 3, 1) := by decide +kernel
theorem dL_law_732 : decode code 732 = .ok (.iconst 2, 1) := by decide +kernel
theorem dL_law_733 : decode code 733 = .ok (.iadd, 1) := by decide +kernel
theorem dL_law_734 : decode code 734 = .ok (.iaload, 1) := by decide +kernel
theorem dL_law_735 : decode code 735 = .ok (.invokevirtual 83, 3) := by decide +kernel
theorem dL_law_738 : decode code 738 = .ok (.aload_n 2, 1) := by decide +kernel
theorem dL_law_739 : decode code 739 = .ok (.aload_n 0, 1) := by decide +kernel
theorem dL_law_740 : decode code 740 = .ok (.iload_n 3, 1) := by decide +kernel
theorem dL_law_741 : decode code 741 = .ok (.iconst 1, 1) := by decide +kernel
theorem dL_law_742 : decode code 742 = .ok (.iadd, 1) := by decide +kernel
theorem dL_law_743 : decode code 743 = .ok (.iaload, 1) := by decide +kernel
theorem dL_law_744 : decode code 744 = .ok (.aload_n 0, 1) := by decide +kernel
theorem dL_law_745 : decode code 745 = .ok (.iload_n 3, 1) := by decide +kernel
theorem dL_law_746 : decode code 746 = .ok (.iconst 2, 1) := by decide +kernel
theorem dL_law_747 : decode code 747 = .ok (.iadd, 1) := by decide +kernel
theorem dL_law_748 : decode code 748 = .ok (.iaload, 1) := by decide +kernel
theorem dL_law_749 : decode code 749 = .ok (.invokevirtual 86, 3) := by decide +kernel
theorem dL_law_752 : decode code 752 = .ok (.if_icmp .eq 28, 3) := by decide +kernel
theorem dL_law_755 : decode code 755 = .ok (.iconst 0, 1) := by decide +kernel
theorem dL_law_756 : decode code 756 = .ok (.ireturn, 1) := by decide +kernel
theorem dL_law_757 : decode code 757 = .ok (.aload_n 1, 1) := by decide +kernel
theorem dL_law_758 : decode code 758 = .ok (.aload_n 0, 1) := by decide +kernel
theorem dL_law_759 : decode code 759 = .ok (.iload_n 3, 1) := by decide +kernel
theorem dL_law_760 : decode code 760 = .ok (.iconst 1, 1) := by decide +kernel
theorem dL_law_761 : decode code 761 = .ok (.iadd, 1) := by decide +kernel
theorem dL_law_762 : decode code 762 = .ok (.iaload, 1) := by decide +kernel
theorem dL_law_763 : decode code 763 = .ok (.invokevirtual 87, 3) := by decide +kernel
theorem dL_law_766 : decode code 766 = .ok (.aload_n 2, 1) := by decide +kernel
theorem dL_law_767 : decode code 767 = .ok (.aload_n 0, 1) := by decide +kernel
theorem dL_law_768 : decode code 768 = .ok (.iload_n 3, 1) := by decide +kernel
theorem dL_law_769 : decode code 769 = .ok (.iconst 1, 1) := by decide +kernel
theorem dL_law_770 : decode code 770 = .ok (.iadd, 1) := by decide +kernel
theorem dL_law_771 : decode code 771 = .ok (.iaload, 1) := by decide +kernel
theorem dL_law_772 : decode code 772 = .ok (.invokevirtual 90, 3) := by decide +kernel
theorem dL_law_775 : decode code 775 = .ok (.if_icmp .eq 5, 3) := by decide +kernel
theorem dL_law_778 : decode code 778 = .ok (.iconst 0, 1) := by decide +kernel
theorem dL_law_779 : decode code 779 = .ok (.ireturn, 1) := by decide +kernel
theorem dL_law_780 : decode code 780 = .ok (.iinc 3 8, 3) := by decide +kernel
theorem dL_law_783 : decode code 783 = .ok (.goto (-765), 3) := by decide +kernel
theorem dL_law_786 : decode code 786 = .ok (.iconst 1, 1) := by decide +kernel
theorem dL_law_787 : decode code 787 = .ok (.ireturn, 1) := by decide +kernel
def SP_feed (Inv : Nat → Nat → Nat → PH → MS → Prop) : Prop := ∀ (n c s : Nat) (h : PH) (u : MS) (x0 : Int32) (x1 : Int32) (x2 : Int32) (x3 : Int32) (x4 : Int32), Inv (n + 1) c s h u → ∃ (h' : PH) (r : Int32) (kc ks : Nat) (u' : MS), fX11_feed h 0 x0 x1 x2 x3 x4 = some (h', r, kc, ks) ∧ fX12_feed u x0 x1 x2 x3 x4 = some (u', r) ∧ Inv n (c + kc) (s + ks) h' u'
def SP_back (Inv : Nat → Nat → Nat → PH → MS → Prop) : Prop := ∀ (n c s : Nat) (h : PH) (u : MS) (x0 : Int32), Inv (n + 1) c s h u → ∃ (h' : PH) (r : Int32) (u' : MS), fX11_back h 0 x0 = some (h', r) ∧ fX12_back u x0 = some (u', r) ∧ Inv n c s h' u'
def SP_read (Inv : Nat → Nat → Nat → PH → MS → Prop) : Prop := ∀ (n c s : Nat) (h : PH) (u : MS), Inv (n + 1) c s h u → ∃ (h' : PH) (r : Int32) (kc ks : Nat) (u' : MS), fX11_read h 0  = some (h', r, kc, ks) ∧ fX12_read u  = some (u', r) ∧ Inv n (c + kc) (s + ks) h' u'
def SP_place (Inv : Nat → Nat → Nat → PH → MS → Prop) : Prop := ∀ (n c s : Nat) (h : PH) (u : MS), Inv (n + 1) c s h u → ∃ (r : Int32), fX11_place h 0  = some r ∧ fX12_place u  = some r ∧ Inv n c s h u
def SP_clock (Inv : Nat → Nat → Nat → PH → MS → Prop) : Prop := ∀ (n c s : Nat) (h : PH) (u : MS) (x0 : Int32), Inv (n + 1) c s h u → ∃ (h' : PH) (r : Int32) (u' : MS), fX11_clock h 0 x0 = some (h', r) ∧ fX12_clock u x0 = some (u', r) ∧ Inv n c s h' u'
def SP_testify (Inv : Nat → Nat → Nat → PH → MS → Prop) : Prop := ∀ (n c s : Nat) (h : PH) (u : MS) (x0 : Int32) (x1 : Int32) (x2 : Int32) (x3 : Int32) (x4 : Int32) (x5 : Int32) (x6 : Int32), Inv (n + 1) c s h u → ∃ (h' : PH) (r : Int32) (kc ks : Nat) (u' : MS), fX11_testify h 0 x0 (bo x1) x2 x3 x4 x5 x6 = some (h', r, kc, ks) ∧ fX12_testify u x0 (bo x1) x2 x3 x4 x5 x6 = some (u', r) ∧ Inv n (c + kc) (s + ks) h' u'
def SP_number (Inv : Nat → Nat → Nat → PH → MS → Prop) : Prop := ∀ (n c s : Nat) (h : PH) (u : MS) (x0 : Int32) (x1 : Int32) (x2 : Int32), Inv (n + 1) c s h u → ∃ (h' : PH) (r : Int32) (u' : MS), fX11_number h 0 x0 x1 x2 = some (h', r) ∧ fX12_number u x0 x1 x2 = some (u', r) ∧ Inv n c s h' u'
def SP_judge (Inv : Nat → Nat → Nat → PH → MS → Prop) : Prop := ∀ (n c s : Nat) (h : PH) (u : MS) (x0 : Int32) (x1 : Int32), Inv (n + 1) c s h u → ∃ (h' : PH) (r : Int32) (kc ks : Nat) (u' : MS), fX11_judge h 0 x0 x1 = some (h', r, kc, ks) ∧ fX12_judge u x0 x1 = some (u', r) ∧ Inv n (c + kc) (s + ks) h' u'
def SP_status (Inv : Nat → Nat → Nat → PH → MS → Prop) : Prop := ∀ (n c s : Nat) (h : PH) (u : MS) (x0 : Int32) (x1 : Int32) (x2 : Int32) (x3 : Int32), Inv (n + 1) c s h u → ∃ (r : Int32), fX11_status h 0 x0 (bo x1) x2 x3 = some r ∧ fX12_status u x0 (bo x1) x2 x3 = some r ∧ Inv n c s h u
def SP_why (Inv : Nat → Nat → Nat → PH → MS → Prop) : Prop := ∀ (n c s : Nat) (h : PH) (u : MS) (x0 : Int32) (x1 : Int32) (x2 : Int32) (x3 : Int32) (x4 : Int32), Inv (n + 1) c s h u → ∃ (h' : PH) (r : Int32), fX11_why h 0 x0 (bo x1) x2 x3 x4 = some (h', r) ∧ fX12_why u x0 (bo x1) x2 x3 x4 = some r ∧ Inv n c s h' u
def SP_sum (Inv : Nat → Nat → Nat → PH → MS → Prop) : Prop := ∀ (n c s : Nat) (h : PH) (u : MS) (x0 : Int32) (x1 : Int32) (x2 : Int32), Inv (n + 1) c s h u → ∃ (r : Int64), fX11_sum h 0 x0 x1 x2 = some r ∧ fX12_sum u x0 x1 x2 = some r ∧ Inv n c s h u
def SP_text (Inv : Nat → Nat → Nat → PH → MS → Prop) : Prop := ∀ (n c s : Nat) (h : PH) (u : MS), Inv (n + 1) c s h u → ∃ (h' : PH) (r : Int32) (kc ks : Nat) (u' : MS), fX11_text h 0  = some (h', r, kc, ks) ∧ fX12_text u  = some (u', r) ∧ Inv n (c + kc) (s + ks) h' u'
def SP_out (Inv : Nat → Nat → Nat → PH → MS → Prop) : Prop := ∀ (n c s : Nat) (h : PH) (u : MS) (x0 : Int32), Inv (n + 1) c s h u → ∃ (r : Int32), fX11_out h 0 x0 = some r ∧ fX12_out u x0 = some r ∧ Inv n c s h u
def SP_rule (Inv : Nat → Nat → Nat → PH → MS → Prop) : Prop := ∀ (n c s : Nat) (h : PH) (u : MS) (x0 : Int32) (x1 : Int32), Inv (n + 1) c s h u → ∃ (r : Int32), fX11_rule h 0 x0 x1 = some r ∧ fX12_rule u x0 x1 = some r ∧ Inv n c s h u
def SP_law (Inv : Nat → Nat → Nat → PH → MS → Prop) : Prop := ∀ (n c s : Nat) (h : PH) (u : MS) (x0 : Int32) (x1 : Int32), Inv (n + 1) c s h u → ∃ (r : Int32), fX11_law h 0 x0 x1 = some r ∧ fX12_law u x0 x1 = some r ∧ Inv n c s h u
def SP_above (Inv : Nat → Nat → Nat → PH → MS → Prop) : Prop := ∀ (n c s : Nat) (h : PH) (u : MS) (x0 : Int32) (x1 : Int32), Inv (n + 1) c s h u → ∃ (r : Int32), fX11_above h 0 x0 x1 = some r ∧ fX12_above u x0 x1 = some r ∧ Inv n c s h u
def SP_count (Inv : Nat → Nat → Nat → PH → MS → Prop) : Prop := ∀ (n c s : Nat) (h : PH) (u : MS) (x0 : Int32), Inv (n + 1) c s h u → ∃ (r : Int32), fX11_count h 0 x0 = some r ∧ fX12_count u x0 = some r ∧ Inv n c s h u
def SP_bd (Inv : Nat → Nat → Nat → PH → MS → Prop) : Prop := ∀ (n c s : Nat) (h : PH) (u : MS), Inv n c s h u → c ≤ 540000 ∧ s ≤ 6000000 ∧ hT h 0 = 12
def SP_no (Inv : Nat → Nat → Nat → PH → MS → Prop) : Prop := ∀ (n c s : Nat) (h : PH) (u : MS), Inv (n + 1) c s h u → Inv n c s h u
theorem lw_cmp {L i : Nat} (hL : L ≤ 4096) (hi : i ≤ 8192) : nI L - 8 < nI i ↔ L < i + 8 := by
  have e1 : (nI L - 8).toInt = (L : Int) - 8 := by
    rw [Int32.toInt_sub, nI_toInt (by omega), show (8 : Int32).toInt = 8 from rfl]
    rw [Int.bmod_eq_of_le] <;> omega
  rw [Int32.lt_iff_toInt_lt, e1, nI_toInt (by omega)]
  omega
set_option maxHeartbeats 16000000 in
set_option maxRecDepth 100000 in
theorem law_loop {p : Program} {l : Launch} {e : Env} {s : State} {m : MethodId} {below : List Frame} {meth : Method} {c : Code} {D : va_G} {aC : Nat → ClassId} {bb L n0 : Nat} {xs : Nat → Int32} {adK adV : Nat → Nat} (hL : L ≤ 4096) (b : Bd p s m c code 4 R_law D aC) (hr : meth.sig.returnType = ret) (hlocks : meth.locks = false) (hX : va_X bb L xs s s.heap) (hbl : bb < s.heap.size) (h0 : 0 < n0) (zs : ZS adK adV (Rg (aX s.heap.size n0)) s) {Inv : Nat → Nat → Nat → PH → MS → Prop} (hBd : SP_bd Inv) (hNo : SP_no Inv) (s_feed : SP_feed Inv) (s_back : SP_back Inv) (s_read : SP_read Inv) (s_place : SP_place Inv) (s_clock : SP_clock Inv) (s_testify : SP_testify Inv) (s_number : SP_number Inv) (s_judge : SP_judge Inv) (s_status : SP_status Inv) (s_why : SP_why Inv) (s_sum : SP_sum Inv) (s_text : SP_text Inv) (s_out : SP_out Inv) (s_rule : SP_rule Inv) (s_law : SP_law Inv) (s_above : SP_above Inv) (s_count : SP_count Inv) :
    ∀ (n i : Nat), L < i + 8 * n + 8 → i ≤ 8000 → ∀ (cells slots : Nat) (h : PH) (u : MS), Inv n cells slots h u → ∀ (H : Heap) (locs : List Loc), LE D aC n0 h u s H locs → ∀ ls : Array Slot, lv_has ls 4 [(0, .ref bb), (1, .ref (aX s.heap.size n0 0)), (2, .ref (aM s.heap.size n0 116)), (3, .int (nI i))] → W p l e room_1 s m #[Value.ref bb] below meth c H locs cells slots (lw_Z below #[Value.ref bb] s) (F0 m 18 ls []) := by
  intro n
  induction n with
  | zero =>
    intro i hi1 hi2 cells slots h u hI H locs hE ls hl
    have hB0 := hBd _ _ _ _ _ hI
    refine lv_iload_n b.1 b.2.1 dL_law_18 rfl (lv_at hl 3 rfl) ?_
    refine lv_aload_n b.1 b.2.1 dL_law_19 rfl (lv_at hl 0 rfl) ?_
    refine va_slen b.1 b.2.1 hX hbl (Nat.not_le.mpr hbl) hE.2.2 dL_law_20 ?_
    refine lv_bipush (v := 8) b.1 b.2.1 dL_law_21 (by decide) ?_
    refine lv_isub b.1 b.2.1 dL_law_23 ?_
    refine lv_icmp_gt (tgt := 786) b.1 b.2.1 dL_law_24 (by decide) (fun c1 => ?_) (fun c1 => absurd ((lw_cmp hL (by omega)).mpr (by omega)) c1)
    refine lv_iconst (v := 1) b.1 b.2.1 dL_law_786 (by decide) ?_
    refine va_forget (fun q hq => hE.2.2.2.2 q hq) ?_
    refine W.widen (rmC hB0.1) (rmS hB0.2.1) ?_
    exact lw_ret b.1 b.2.1 hr hlocks dL_law_787
  | succ n ih =>
    intro i hi1 hi2 cells slots h u hI H locs hE ls hl
    have hB0 := hBd _ _ _ _ _ hI
    refine lv_iload_n b.1 b.2.1 dL_law_18 rfl (lv_at hl 3 rfl) ?_
    refine lv_aload_n b.1 b.2.1 dL_law_19 rfl (lv_at hl 0 rfl) ?_
    refine va_slen b.1 b.2.1 hX hbl (Nat.not_le.mpr hbl) hE.2.2 dL_law_20 ?_
    refine lv_bipush (v := 8) b.1 b.2.1 dL_law_21 (by decide) ?_
    refine lv_isub b.1 b.2.1 dL_law_23 ?_
    refine lv_icmp_gt (tgt := 786) b.1 b.2.1 dL_law_24 (by decide) (fun c1 => ?_) (fun c1 => ?_)
    · refine lv_iconst (v := 1) b.1 b.2.1 dL_law_786 (by decide) ?_
      refine va_forget (fun q hq => hE.2.2.2.2 q hq) ?_
      refine W.widen (rmC hB0.1) (rmS hB0.2.1) ?_
      exact lw_ret b.1 b.2.1 hr hlocks dL_law_787
    have hiL : i + 8 ≤ L := Nat.not_lt.mp (fun q => c1 ((lw_cmp hL (by omega)).mpr q))
    have nxt : ∀ (cells slots : Nat) (h : PH) (u : MS), Inv n cells slots h u → ∀ (H : Heap) (locs : List Loc), LE D aC n0 h u s H locs → W p l e room_1 s m #[Value.ref bb] below meth c H locs cells slots (lw_Z below #[Value.ref bb] s) (F0 m 780 ls []) := by
      intro cells slots h u hI H locs hE
      refine lv_iinc (v := nI (i + 8)) (lv' := [(3, .int (nI (i + 8))), (0, .ref bb), (1, .ref (aX s.heap.size n0 0)), (2, .ref (aM s.heap.size n0 116))]) b.1 b.2.1 dL_law_780 hl (k := 3) rfl (nI_plus i 8).symm (by decide) rfl (fun ls hl => ?_)
      refine lv_goto (tgt := 18) b.1 b.2.1 dL_law_783 (by decide) ?_
      exact ih (i + 8) (by omega) (by omega) cells slots h u hI H locs hE ls (lv_sub hl [1, 2, 3, 0] rfl)
    refine lv_aload_n b.1 b.2.1 dL_law_27 rfl (lv_at hl 0 rfl) ?_
    refine lv_iload_n b.1 b.2.1 dL_law_28 rfl (lv_at hl 3 rfl) ?_
    refine va_sld b.1 b.2.1 hX hbl (Nat.not_le.mpr hbl) hE.2.2 (vp_in_nI (show i < L by omega) (by omega)) dL_law_29 ?_
    refine lv_bipush (v := 31) b.1 b.2.1 dL_law_30 (by decide) ?_
    refine lv_iand b.1 b.2.1 dL_law_32 ?_
    obtain ⟨yy, eyy⟩ : ∃ z : Int32, z = xs (nI i).toNatClampNeg &&& 31 := ⟨_, rfl⟩
    refine k_nmI eyy ?_
    rcases Decidable.em (yy = 0) with c1 | c1
    · refine lv_tableIn (tgt := 116) (off := 83) b.1 b.2.1 dL_law_33 (by rw [c1]; decide) (by rw [c1]; decide) (by rw [c1] <;> rfl) (by decide) ?_
      obtain ⟨h', r, kc, ks, u', fx, fm, hI1⟩ := s_feed n cells slots h u (xs (i + 1)) (xs (i + 2)) (xs (i + 3)) (xs (i + 4)) (xs (i + 5)) hI
      have hB1 := hBd _ _ _ _ _ hI1
      refine lv_aload_n b.1 b.2.1 dL_law_116 rfl (lv_at hl 1 rfl) ?_
      refine lw_arg b hX hbl hE.2.2 hl (j0 := 0) (j3 := 3) rfl rfl 1 (by omega) hL (ki := 1) (q1 := 120) (q2 := 121) (q3 := 122) (by decide) dL_law_117 dL_law_118 (fun _ w => lv_iconst (v := 1) b.1 b.2.1 dL_law_119 (by decide) w) dL_law_120 rfl dL_law_121 rfl ?_
      refine lw_arg b hX hbl hE.2.2 hl (j0 := 0) (j3 := 3) rfl rfl 2 (by omega) hL (ki := 2) (q1 := 125) (q2 := 126) (q3 := 127) (by decide) dL_law_122 dL_law_123 (fun _ w => lv_iconst (v := 2) b.1 b.2.1 dL_law_124 (by decide) w) dL_law_125 rfl dL_law_126 rfl ?_
      refine lw_arg b hX hbl hE.2.2 hl (j0 := 0) (j3 := 3) rfl rfl 3 (by omega) hL (ki := 3) (q1 := 130) (q2 := 131) (q3 := 132) (by decide) dL_law_127 dL_law_128 (fun _ w => lv_iconst (v := 3) b.1 b.2.1 dL_law_129 (by decide) w) dL_law_130 rfl dL_law_131 rfl ?_
      refine lw_arg b hX hbl hE.2.2 hl (j0 := 0) (j3 := 3) rfl rfl 4 (by omega) hL (ki := 4) (q1 := 135) (q2 := 136) (q3 := 137) (by decide) dL_law_132 dL_law_133 (fun _ w => lv_iconst (v := 4) b.1 b.2.1 dL_law_134 (by decide) w) dL_law_135 rfl dL_law_136 rfl ?_
      refine lw_arg b hX hbl hE.2.2 hl (j0 := 0) (j3 := 3) rfl rfl 5 (by omega) hL (ki := 5) (q1 := 140) (q2 := 141) (q3 := 142) (by decide) dL_law_137 dL_law_138 (fun _ w => lv_iconst (v := 5) b.1 b.2.1 dL_law_139 (by decide) w) dL_law_140 rfl dL_law_141 rfl ?_
      refine kl_callX b h0 zs hE hB0.2.2 (CX11_feed l D aC _ ZS_ok fx) mc_X11_feed (in2 74 rfl rfl) mi_X11_feed ms_X11_feed ini_RX11 ok_X11_feed ⟨Nat.le_of_ble_eq_true rfl, Nat.le_of_ble_eq_true rfl⟩ rfl hl.1 rfl (k_room _ (by exact Nat.le_of_ble_eq_true rfl)) ⟨rmC hB1.1, rmS hB1.2.1⟩ dL_law_142 (fun H locs hE => ?_)
      refine lv_aload_n b.1 b.2.1 dL_law_145 rfl (lv_at hl 2 rfl) ?_
      refine lw_arg b hX hbl hE.2.2 hl (j0 := 0) (j3 := 3) rfl rfl 1 (by omega) hL (ki := 1) (q1 := 149) (q2 := 150) (q3 := 151) (by decide) dL_law_146 dL_law_147 (fun _ w => lv_iconst (v := 1) b.1 b.2.1 dL_law_148 (by decide) w) dL_law_149 rfl dL_law_150 rfl ?_
      refine lw_arg b hX hbl hE.2.2 hl (j0 := 0) (j3 := 3) rfl rfl 2 (by omega) hL (ki := 2) (q1 := 154) (q2 := 155) (q3 := 156) (by decide) dL_law_151 dL_law_152 (fun _ w => lv_iconst (v := 2) b.1 b.2.1 dL_law_153 (by decide) w) dL_law_154 rfl dL_law_155 rfl ?_
      refine lw_arg b hX hbl hE.2.2 hl (j0 := 0) (j3 := 3) rfl rfl 3 (by omega) hL (ki := 3) (q1 := 159) (q2 := 160) (q3 := 161) (by decide) dL_law_156 dL_law_157 (fun _ w => lv_iconst (v := 3) b.1 b.2.1 dL_law_158 (by decide) w) dL_law_159 rfl dL_law_160 rfl ?_
      refine lw_arg b hX hbl hE.2.2 hl (j0 := 0) (j3 := 3) rfl rfl 4 (by omega) hL (ki := 4) (q1 := 164) (q2 := 165) (q3 := 166) (by decide) dL_law_161 dL_law_162 (fun _ w => lv_iconst (v := 4) b.1 b.2.1 dL_law_163 (by decide) w) dL_law_164 rfl dL_law_165 rfl ?_
      refine lw_arg b hX hbl hE.2.2 hl (j0 := 0) (j3 := 3) rfl rfl 5 (by omega) hL (ki := 5) (q1 := 169) (q2 := 170) (q3 := 171) (by decide) dL_law_166 dL_law_167 (fun _ w => lv_iconst (v := 5) b.1 b.2.1 dL_law_168 (by decide) w) dL_law_169 rfl dL_law_170 rfl ?_
      refine kl_callM b h0 hE (CX12_feed l D aC _ (fun _ _ _ _ _ _ _ _ => trivial) fm) mc_X12_feed (in7 74 rfl rfl) mi_X12_feed ms_X12_feed ini_RX12 ok_X12_feed ⟨Nat.le_of_ble_eq_true rfl, Nat.le_of_ble_eq_true rfl⟩ rfl hl.1 rfl (k_room _ (by exact Nat.le_of_ble_eq_true rfl)) ⟨rmC hB1.1, rmS hB1.2.1⟩ dL_law_171 (fun H locs hE => ?_)
      refine lv_icmp_eq (tgt := 780) b.1 b.2.1 dL_law_174 (by decide) (fun _ => ?_) (fun c2 => absurd rfl c2)
      exact nxt _ _ _ _ hI1 _ _ hE
    have c100 := lv_neT (a := 0) c1 (by decide)
    rcases Decidable.em (yy = 1) with c1 | c1
    · refine lv_tableIn (tgt := 179) (off := 146) b.1 b.2.1 dL_law_33 (by rw [c1]; decide) (by rw [c1]; decide) (by rw [c1] <;> rfl) (by decide) ?_
      obtain ⟨h', r, u', fx, fm, hI1⟩ := s_back n cells slots h u (xs (i + 1)) hI
      have hB1 := hBd _ _ _ _ _ hI1
      refine lv_aload_n b.1 b.2.1 dL_law_179 rfl (lv_at hl 1 rfl) ?_
      refine lw_arg b hX hbl hE.2.2 hl (j0 := 0) (j3 := 3) rfl rfl 1 (by omega) hL (ki := 1) (q1 := 183) (q2 := 184) (q3 := 185) (by decide) dL_law_180 dL_law_181 (fun _ w => lv_iconst (v := 1) b.1 b.2.1 dL_law_182 (by decide) w) dL_law_183 rfl dL_law_184 rfl ?_
      refine kl_callX b h0 zs hE hB0.2.2 (CX11_back l D aC _ ZS_ok fx) mc_X11_back (in2 104 rfl rfl) mi_X11_back ms_X11_back ini_RX11 ok_X11_back ⟨Nat.le_of_ble_eq_true rfl, Nat.le_of_ble_eq_true rfl⟩ rfl hl.1 rfl (k_room _ (by exact Nat.le_of_ble_eq_true rfl)) ⟨rmC (show cells + 0 ≤ 540000 from hB1.1), rmS (show slots + 0 ≤ 6000000 from hB1.2.1)⟩ dL_law_185 (fun H locs hE => ?_)
      refine lv_aload_n b.1 b.2.1 dL_law_188 rfl (lv_at hl 2 rfl) ?_
      refine lw_arg b hX hbl hE.2.2 hl (j0 := 0) (j3 := 3) rfl rfl 1 (by omega) hL (ki := 1) (q1 := 192) (q2 := 193) (q3 := 194) (by decide) dL_law_189 dL_law_190 (fun _ w => lv_iconst (v := 1) b.1 b.2.1 dL_law_191 (by decide) w) dL_law_192 rfl dL_law_193 rfl ?_
      refine kl_callM b h0 hE (CX12_back l D aC _ (fun _ _ _ _ _ _ _ _ => trivial) fm) mc_X12_back (in7 82 rfl rfl) mi_X12_back ms_X12_back ini_RX12 ok_X12_back ⟨Nat.le_of_ble_eq_true rfl, Nat.le_of_ble_eq_true rfl⟩ rfl hl.1 rfl (k_room _ (by exact Nat.le_of_ble_eq_true rfl)) ⟨rmC hB1.1, rmS hB1.2.1⟩ dL_law_194 (fun H locs hE => ?_)
      refine lv_icmp_eq (tgt := 780) b.1 b.2.1 dL_law_197 (by decide) (fun _ => ?_) (fun c2 => absurd rfl c2)
      exact nxt _ _ _ _ hI1 _ _ hE
    have c101 := lv_neT (a := 1) c1 (by decide)
    rcases Decidable.em (yy = 2) with c1 | c1
    · refine lv_tableIn (tgt := 202) (off := 169) b.1 b.2.1 dL_law_33 (by rw [c1]; decide) (by rw [c1]; decide) (by rw [c1] <;> rfl) (by decide) ?_
      obtain ⟨h', r, kc, ks, u', fx, fm, hI1⟩ := s_read n cells slots h u  hI
      have hB1 := hBd _ _ _ _ _ hI1
      refine lv_aload_n b.1 b.2.1 dL_law_202 rfl (lv_at hl 1 rfl) ?_
      refine kl_callX b h0 zs hE hB0.2.2 (CX11_read l D aC _ ZS_ok fx) mc_X11_read (in2 108 rfl rfl) mi_X11_read ms_X11_read ini_RX11 ok_X11_read ⟨Nat.le_of_ble_eq_true rfl, Nat.le_of_ble_eq_true rfl⟩ rfl hl.1 rfl (k_room _ (by exact Nat.le_of_ble_eq_true rfl)) ⟨rmC hB1.1, rmS hB1.2.1⟩ dL_law_203 (fun H locs hE => ?_)
      refine lv_aload_n b.1 b.2.1 dL_law_206 rfl (lv_at hl 2 rfl) ?_
      refine kl_callM b h0 hE (CX12_read l D aC _ (fun _ _ _ _ _ _ _ _ => trivial) fm) mc_X12_read (in7 86 rfl rfl) mi_X12_read ms_X12_read ini_RX12 ok_X12_read ⟨Nat.le_of_ble_eq_true rfl, Nat.le_of_ble_eq_true rfl⟩ rfl hl.1 rfl (k_room _ (by exact Nat.le_of_ble_eq_true rfl)) ⟨rmC hB1.1, rmS hB1.2.1⟩ dL_law_207 (fun H locs hE => ?_)
      refine lv_icmp_eq (tgt := 780) b.1 b.2.1 dL_law_210 (by decide) (fun _ => ?_) (fun c2 => absurd rfl c2)
      exact nxt _ _ _ _ hI1 _ _ hE
    have c102 := lv_neT (a := 2) c1 (by decide)
    rcases Decidable.em (yy = 3) with c1 | c1
    · refine lv_tableIn (tgt := 215) (off := 182) b.1 b.2.1 dL_law_33 (by rw [c1]; decide) (by rw [c1]; decide) (by rw [c1] <;> rfl) (by decide) ?_
      obtain ⟨r, fx, fm, hI1⟩ := s_place n cells slots h u  hI
      have hB1 := hBd _ _ _ _ _ hI1
      refine lv_aload_n b.1 b.2.1 dL_law_215 rfl (lv_at hl 1 rfl) ?_
      refine kl_callX b h0 zs hE hB0.2.2 (CX11_place l D aC _ ZS_ok fx) mc_X11_place (in3 195 rfl rfl) mi_X11_place ms_X11_place ini_RX11 ok_X11_place ⟨Nat.le_of_ble_eq_true rfl, Nat.le_of_ble_eq_true rfl⟩ rfl hl.1 rfl (k_room _ (by exact Nat.le_of_ble_eq_true rfl)) ⟨rmC (show cells + 0 ≤ 540000 from hB1.1), rmS (show slots + 0 ≤ 6000000 from hB1.2.1)⟩ dL_law_216 (fun H locs hE => ?_)
      refine lv_aload_n b.1 b.2.1 dL_law_219 rfl (lv_at hl 2 rfl) ?_
      refine kl_callM b h0 hE (CX12_place l D aC _ (fun _ _ _ _ _ _ _ _ => trivial) fm) mc_X12_place (in7 200 rfl rfl) mi_X12_place ms_X12_place ini_RX12 ok_X12_place ⟨Nat.le_of_ble_eq_true rfl, Nat.le_of_ble_eq_true rfl⟩ rfl hl.1 rfl (k_room _ (by exact Nat.le_of_ble_eq_true rfl)) ⟨rmC hB1.1, rmS hB1.2.1⟩ dL_law_220 (fun H locs hE => ?_)
      refine lv_icmp_eq (tgt := 780) b.1 b.2.1 dL_law_223 (by decide) (fun _ => ?_) (fun c2 => absurd rfl c2)
      exact nxt _ _ _ _ hI1 _ _ hE
    have c103 := lv_neT (a := 3) c1 (by decide)
    rcases Decidable.em (yy = 4) with c1 | c1
    · refine lv_tableIn (tgt := 228) (off := 195) b.1 b.2.1 dL_law_33 (by rw [c1]; decide) (by rw [c1]; decide) (by rw [c1] <;> rfl) (by decide) ?_
      obtain ⟨h', r, u', fx, fm, hI1⟩ := s_clock n cells slots h u (xs (i + 1)) hI
      have hB1 := hBd _ _ _ _ _ hI1
      refine lv_aload_n b.1 b.2.1 dL_law_228 rfl (lv_at hl 1 rfl) ?_
      refine lw_arg b hX hbl hE.2.2 hl (j0 := 0) (j3 := 3) rfl rfl 1 (by omega) hL (ki := 1) (q1 := 232) (q2 := 233) (q3 := 234) (by decide) dL_law_229 dL_law_230 (fun _ w => lv_iconst (v := 1) b.1 b.2.1 dL_law_231 (by decide) w) dL_law_232 rfl dL_law_233 rfl ?_
      refine kl_callX b h0 zs hE hB0.2.2 (CX11_clock l D aC _ ZS_ok fx) mc_X11_clock (in3 199 rfl rfl) mi_X11_clock ms_X11_clock ini_RX11 ok_X11_clock ⟨Nat.le_of_ble_eq_true rfl, Nat.le_of_ble_eq_true rfl⟩ rfl hl.1 rfl (k_room _ (by exact Nat.le_of_ble_eq_true rfl)) ⟨rmC (show cells + 0 ≤ 540000 from hB1.1), rmS (show slots + 0 ≤ 6000000 from hB1.2.1)⟩ dL_law_234 (fun H locs hE => ?_)
      refine lv_aload_n b.1 b.2.1 dL_law_237 rfl (lv_at hl 2 rfl) ?_
      refine lw_arg b hX hbl hE.2.2 hl (j0 := 0) (j3 := 3) rfl rfl 1 (by omega) hL (ki := 1) (q1 := 241) (q2 := 242) (q3 := 243) (by decide) dL_law_238 dL_law_239 (fun _ w => lv_iconst (v := 1) b.1 b.2.1 dL_law_240 (by decide) w) dL_law_241 rfl dL_law_242 rfl ?_
      refine kl_callM b h0 hE (CX12_clock l D aC _ (fun _ _ _ _ _ _ _ _ => trivial) fm) mc_X12_clock (in7 204 rfl rfl) mi_X12_clock ms_X12_clock ini_RX12 ok_X12_clock ⟨Nat.le_of_ble_eq_true rfl, Nat.le_of_ble_eq_true rfl⟩ rfl hl.1 rfl (k_room _ (by exact Nat.le_of_ble_eq_true rfl)) ⟨rmC hB1.1, rmS hB1.2.1⟩ dL_law_243 (fun H locs hE => ?_)
      refine lv_icmp_eq (tgt := 780) b.1 b.2.1 dL_law_246 (by decide) (fun _ => ?_) (fun c2 => absurd rfl c2)
      exact nxt _ _ _ _ hI1 _ _ hE
    have c104 := lv_neT (a := 4) c1 (by decide)
    rcases Decidable.em (yy = 5) with c1 | c1
    · refine lv_tableIn (tgt := 251) (off := 218) b.1 b.2.1 dL_law_33 (by rw [c1]; decide) (by rw [c1]; decide) (by rw [c1] <;> rfl) (by decide) ?_
      obtain ⟨h', r, kc, ks, u', fx, fm, hI1⟩ := s_testify n cells slots h u (xs (i + 1)) (xs (i + 2)) (xs (i + 3)) (xs (i + 4)) (xs (i + 5)) (xs (i + 6)) (xs (i + 7)) hI
      have hB1 := hBd _ _ _ _ _ hI1
      refine lv_aload_n b.1 b.2.1 dL_law_251 rfl (lv_at hl 1 rfl) ?_
      refine lw_arg b hX hbl hE.2.2 hl (j0 := 0) (j3 := 3) rfl rfl 1 (by omega) hL (ki := 1) (q1 := 255) (q2 := 256) (q3 := 257) (by decide) dL_law_252 dL_law_253 (fun _ w => lv_iconst (v := 1) b.1 b.2.1 dL_law_254 (by decide) w) dL_law_255 rfl dL_law_256 rfl ?_
      refine lw_arg b hX hbl hE.2.2 hl (j0 := 0) (j3 := 3) rfl rfl 2 (by omega) hL (ki := 2) (q1 := 260) (q2 := 261) (q3 := 262) (by decide) dL_law_257 dL_law_258 (fun _ w => lv_iconst (v := 2) b.1 b.2.1 dL_law_259 (by decide) w) dL_law_260 rfl dL_law_261 rfl ?_
      refine lw_bool b (q3 := 265) (q4 := 266) (q7 := 269) (q8 := 270) dL_law_262 rfl rfl dL_law_265 rfl dL_law_266 rfl dL_law_269 ?_
      refine lw_arg b hX hbl hE.2.2 hl (j0 := 0) (j3 := 3) rfl rfl 3 (by omega) hL (ki := 3) (q1 := 273) (q2 := 274) (q3 := 275) (by decide) dL_law_270 dL_law_271 (fun _ w => lv_iconst (v := 3) b.1 b.2.1 dL_law_272 (by decide) w) dL_law_273 rfl dL_law_274 rfl ?_
      refine lw_arg b hX hbl hE.2.2 hl (j0 := 0) (j3 := 3) rfl rfl 4 (by omega) hL (ki := 4) (q1 := 278) (q2 := 279) (q3 := 280) (by decide) dL_law_275 dL_law_276 (fun _ w => lv_iconst (v := 4) b.1 b.2.1 dL_law_277 (by decide) w) dL_law_278 rfl dL_law_279 rfl ?_
      refine lw_arg b hX hbl hE.2.2 hl (j0 := 0) (j3 := 3) rfl rfl 5 (by omega) hL (ki := 5) (q1 := 283) (q2 := 284) (q3 := 285) (by decide) dL_law_280 dL_law_281 (fun _ w => lv_iconst (v := 5) b.1 b.2.1 dL_law_282 (by decide) w) dL_law_283 rfl dL_law_284 rfl ?_
      refine lw_arg b hX hbl hE.2.2 hl (j0 := 0) (j3 := 3) rfl rfl 6 (by omega) hL (ki := 6) (q1 := 289) (q2 := 290) (q3 := 291) (by decide) dL_law_285 dL_law_286 (fun _ w => lv_bipush (v := 6) b.1 b.2.1 dL_law_287 (by decide) w) dL_law_289 rfl dL_law_290 rfl ?_
      refine lw_arg b hX hbl hE.2.2 hl (j0 := 0) (j3 := 3) rfl rfl 7 (by omega) hL (ki := 7) (q1 := 295) (q2 := 296) (q3 := 297) (by decide) dL_law_291 dL_law_292 (fun _ w => lv_bipush (v := 7) b.1 b.2.1 dL_law_293 (by decide) w) dL_law_295 rfl dL_law_296 rfl ?_
      refine kl_callX b h0 zs hE hB0.2.2 (CX11_testify l D aC _ ZS_ok fx) mc_X11_testify (in3 204 rfl rfl) mi_X11_testify ms_X11_testify ini_RX11 ok_X11_testify ⟨Nat.le_of_ble_eq_true rfl, Nat.le_of_ble_eq_true rfl⟩ rfl hl.1 rfl (k_room _ (by exact Nat.le_of_ble_eq_true rfl)) ⟨rmC hB1.1, rmS hB1.2.1⟩ dL_law_297 (fun H locs hE => ?_)
      refine lv_aload_n b.1 b.2.1 dL_law_300 rfl (lv_at hl 2 rfl) ?_
      refine lw_arg b hX hbl hE.2.2 hl (j0 := 0) (j3 := 3) rfl rfl 1 (by omega) hL (ki := 1) (q1 := 304) (q2 := 305) (q3 := 306) (by decide) dL_law_301 dL_law_302 (fun _ w => lv_iconst (v := 1) b.1 b.2.1 dL_law_303 (by decide) w) dL_law_304 rfl dL_law_305 rfl ?_
      refine lw_arg b hX hbl hE.2.2 hl (j0 := 0) (j3 := 3) rfl rfl 2 (by omega) hL (ki := 2) (q1 := 309) (q2 := 310) (q3 := 311) (by decide) dL_law_306 dL_law_307 (fun _ w => lv_iconst (v := 2) b.1 b.2.1 dL_law_308 (by decide) w) dL_law_309 rfl dL_law_310 rfl ?_
      refine lw_bool b (q3 := 314) (q4 := 315) (q7 := 318) (q8 := 319) dL_law_311 rfl rfl dL_law_314 rfl dL_law_315 rfl dL_law_318 ?_
      refine lw_arg b hX hbl hE.2.2 hl (j0 := 0) (j3 := 3) rfl rfl 3 (by omega) hL (ki := 3) (q1 := 322) (q2 := 323) (q3 := 324) (by decide) dL_law_319 dL_law_320 (fun _ w => lv_iconst (v := 3) b.1 b.2.1 dL_law_321 (by decide) w) dL_law_322 rfl dL_law_323 rfl ?_
      refine lw_arg b hX hbl hE.2.2 hl (j0 := 0) (j3 := 3) rfl rfl 4 (by omega) hL (ki := 4) (q1 := 327) (q2 := 328) (q3 := 329) (by decide) dL_law_324 dL_law_325 (fun _ w => lv_iconst (v := 4) b.1 b.2.1 dL_law_326 (by decide) w) dL_law_327 rfl dL_law_328 rfl ?_
      refine lw_arg b hX hbl hE.2.2 hl (j0 := 0) (j3 := 3) rfl rfl 5 (by omega) hL (ki := 5) (q1 := 332) (q2 := 333) (q3 := 334) (by decide) dL_law_329 dL_law_330 (fun _ w => lv_iconst (v := 5) b.1 b.2.1 dL_law_331 (by decide) w) dL_law_332 rfl dL_law_333 rfl ?_
      refine lw_arg b hX hbl hE.2.2 hl (j0 := 0) (j3 := 3) rfl rfl 6 (by omega) hL (ki := 6) (q1 := 338) (q2 := 339) (q3 := 340) (by decide) dL_law_334 dL_law_335 (fun _ w => lv_bipush (v := 6) b.1 b.2.1 dL_law_336 (by decide) w) dL_law_338 rfl dL_law_339 rfl ?_
      refine lw_arg b hX hbl hE.2.2 hl (j0 := 0) (j3 := 3) rfl rfl 7 (by omega) hL (ki := 7) (q1 := 344) (q2 := 345) (q3 := 346) (by decide) dL_law_340 dL_law_341 (fun _ w => lv_bipush (v := 7) b.1 b.2.1 dL_law_342 (by decide) w) dL_law_344 rfl dL_law_345 rfl ?_
      refine kl_callM b h0 hE (CX12_testify l D aC _ (fun _ _ _ _ _ _ _ _ => trivial) fm) mc_X12_testify (in7 208 rfl rfl) mi_X12_testify ms_X12_testify ini_RX12 ok_X12_testify ⟨Nat.le_of_ble_eq_true rfl, Nat.le_of_ble_eq_true rfl⟩ rfl hl.1 rfl (k_room _ (by exact Nat.le_of_ble_eq_true rfl)) ⟨rmC hB1.1, rmS hB1.2.1⟩ dL_law_346 (fun H locs hE => ?_)
      refine lv_icmp_eq (tgt := 780) b.1 b.2.1 dL_law_349 (by decide) (fun _ => ?_) (fun c2 => absurd rfl c2)
      exact nxt _ _ _ _ hI1 _ _ hE
    have c105 := lv_neT (a := 5) c1 (by decide)
    rcases Decidable.em (yy = 6) with c1 | c1
    · refine lv_tableIn (tgt := 354) (off := 321) b.1 b.2.1 dL_law_33 (by rw [c1]; decide) (by rw [c1]; decide) (by rw [c1] <;> rfl) (by decide) ?_
      obtain ⟨h', r, u', fx, fm, hI1⟩ := s_number n cells slots h u (xs (i + 1)) (xs (i + 2)) (xs (i + 3)) hI
      have hB1 := hBd _ _ _ _ _ hI1
      refine lv_aload_n b.1 b.2.1 dL_law_354 rfl (lv_at hl 1 rfl) ?_
      refine lw_arg b hX hbl hE.2.2 hl (j0 := 0) (j3 := 3) rfl rfl 1 (by omega) hL (ki := 1) (q1 := 358) (q2 := 359) (q3 := 360) (by decide) dL_law_355 dL_law_356 (fun _ w => lv_iconst (v := 1) b.1 b.2.1 dL_law_357 (by decide) w) dL_law_358 rfl dL_law_359 rfl ?_
      refine lw_arg b hX hbl hE.2.2 hl (j0 := 0) (j3 := 3) rfl rfl 2 (by omega) hL (ki := 2) (q1 := 363) (q2 := 364) (q3 := 365) (by decide) dL_law_360 dL_law_361 (fun _ w => lv_iconst (v := 2) b.1 b.2.1 dL_law_362 (by decide) w) dL_law_363 rfl dL_law_364 rfl ?_
      refine lw_arg b hX hbl hE.2.2 hl (j0 := 0) (j3 := 3) rfl rfl 3 (by omega) hL (ki := 3) (q1 := 368) (q2 := 369) (q3 := 370) (by decide) dL_law_365 dL_law_366 (fun _ w => lv_iconst (v := 3) b.1 b.2.1 dL_law_367 (by decide) w) dL_law_368 rfl dL_law_369 rfl ?_
      refine kl_callX b h0 zs hE hB0.2.2 (CX11_number l D aC _ ZS_ok fx) mc_X11_number (in3 239 rfl rfl) mi_X11_number ms_X11_number ini_RX11 ok_X11_number ⟨Nat.le_of_ble_eq_true rfl, Nat.le_of_ble_eq_true rfl⟩ rfl hl.1 rfl (k_room _ (by exact Nat.le_of_ble_eq_true rfl)) ⟨rmC (show cells + 0 ≤ 540000 from hB1.1), rmS (show slots + 0 ≤ 6000000 from hB1.2.1)⟩ dL_law_370 (fun H locs hE => ?_)
      refine lv_aload_n b.1 b.2.1 dL_law_373 rfl (lv_at hl 2 rfl) ?_
      refine lw_arg b hX hbl hE.2.2 hl (j0 := 0) (j3 := 3) rfl rfl 1 (by omega) hL (ki := 1) (q1 := 377) (q2 := 378) (q3 := 379) (by decide) dL_law_374 dL_law_375 (fun _ w => lv_iconst (v := 1) b.1 b.2.1 dL_law_376 (by decide) w) dL_law_377 rfl dL_law_378 rfl ?_
      refine lw_arg b hX hbl hE.2.2 hl (j0 := 0) (j3 := 3) rfl rfl 2 (by omega) hL (ki := 2) (q1 := 382) (q2 := 383) (q3 := 384) (by decide) dL_law_379 dL_law_380 (fun _ w => lv_iconst (v := 2) b.1 b.2.1 dL_law_381 (by decide) w) dL_law_382 rfl dL_law_383 rfl ?_
      refine lw_arg b hX hbl hE.2.2 hl (j0 := 0) (j3 := 3) rfl rfl 3 (by omega) hL (ki := 3) (q1 := 387) (q2 := 388) (q3 := 389) (by decide) dL_law_384 dL_law_385 (fun _ w => lv_iconst (v := 3) b.1 b.2.1 dL_law_386 (by decide) w) dL_law_387 rfl dL_law_388 rfl ?_
      refine kl_callM b h0 hE (CX12_number l D aC _ (fun _ _ _ _ _ _ _ _ => trivial) fm) mc_X12_number (in7 220 rfl rfl) mi_X12_number ms_X12_number ini_RX12 ok_X12_number ⟨Nat.le_of_ble_eq_true rfl, Nat.le_of_ble_eq_true rfl⟩ rfl hl.1 rfl (k_room _ (by exact Nat.le_of_ble_eq_true rfl)) ⟨rmC hB1.1, rmS hB1.2.1⟩ dL_law_389 (fun H locs hE => ?_)
      refine lv_icmp_eq (tgt := 780) b.1 b.2.1 dL_law_392 (by decide) (fun _ => ?_) (fun c2 => absurd rfl c2)
      exact nxt _ _ _ _ hI1 _ _ hE
    have c106 := lv_neT (a := 6) c1 (by decide)
    rcases Decidable.em (yy = 7) with c1 | c1
    · refine lv_tableIn (tgt := 397) (off := 364) b.1 b.2.1 dL_law_33 (by rw [c1]; decide) (by rw [c1]; decide) (by rw [c1] <;> rfl) (by decide) ?_
      obtain ⟨h', r, kc, ks, u', fx, fm, hI1⟩ := s_judge n cells slots h u (xs (i + 1)) (xs (i + 2)) hI
      have hB1 := hBd _ _ _ _ _ hI1
      refine lv_aload_n b.1 b.2.1 dL_law_397 rfl (lv_at hl 1 rfl) ?_
      refine lw_arg b hX hbl hE.2.2 hl (j0 := 0) (j3 := 3) rfl rfl 1 (by omega) hL (ki := 1) (q1 := 401) (q2 := 402) (q3 := 403) (by decide) dL_law_398 dL_law_399 (fun _ w => lv_iconst (v := 1) b.1 b.2.1 dL_law_400 (by decide) w) dL_law_401 rfl dL_law_402 rfl ?_
      refine lw_arg b hX hbl hE.2.2 hl (j0 := 0) (j3 := 3) rfl rfl 2 (by omega) hL (ki := 2) (q1 := 406) (q2 := 407) (q3 := 408) (by decide) dL_law_403 dL_law_404 (fun _ w => lv_iconst (v := 2) b.1 b.2.1 dL_law_405 (by decide) w) dL_law_406 rfl dL_law_407 rfl ?_
      refine kl_callX b h0 zs hE hB0.2.2 (CX11_judge l D aC _ ZS_ok fx) mc_X11_judge (in4 4 rfl rfl) mi_X11_judge ms_X11_judge ini_RX11 ok_X11_judge ⟨Nat.le_of_ble_eq_true rfl, Nat.le_of_ble_eq_true rfl⟩ rfl hl.1 rfl (k_room _ (by exact Nat.le_of_ble_eq_true rfl)) ⟨rmC hB1.1, rmS hB1.2.1⟩ dL_law_408 (fun H locs hE => ?_)
      refine lv_aload_n b.1 b.2.1 dL_law_411 rfl (lv_at hl 2 rfl) ?_
      refine lw_arg b hX hbl hE.2.2 hl (j0 := 0) (j3 := 3) rfl rfl 1 (by omega) hL (ki := 1) (q1 := 415) (q2 := 416) (q3 := 417) (by decide) dL_law_412 dL_law_413 (fun _ w => lv_iconst (v := 1) b.1 b.2.1 dL_law_414 (by decide) w) dL_law_415 rfl dL_law_416 rfl ?_
      refine lw_arg b hX hbl hE.2.2 hl (j0 := 0) (j3 := 3) rfl rfl 2 (by omega) hL (ki := 2) (q1 := 420) (q2 := 421) (q3 := 422) (by decide) dL_law_417 dL_law_418 (fun _ w => lv_iconst (v := 2) b.1 b.2.1 dL_law_419 (by decide) w) dL_law_420 rfl dL_law_421 rfl ?_
      refine kl_callM b h0 hE (CX12_judge l D aC _ (fun _ _ _ _ _ _ _ _ => trivial) fm) mc_X12_judge (in7 233 rfl rfl) mi_X12_judge ms_X12_judge ini_RX12 ok_X12_judge ⟨Nat.le_of_ble_eq_true rfl, Nat.le_of_ble_eq_true rfl⟩ rfl hl.1 rfl (k_room _ (by exact Nat.le_of_ble_eq_true rfl)) ⟨rmC hB1.1, rmS hB1.2.1⟩ dL_law_422 (fun H locs hE => ?_)
      refine lv_icmp_eq (tgt := 780) b.1 b.2.1 dL_law_425 (by decide) (fun _ => ?_) (fun c2 => absurd rfl c2)
      exact nxt _ _ _ _ hI1 _ _ hE
    have c107 := lv_neT (a := 7) c1 (by decide)
    rcases Decidable.em (yy = 8) with c1 | c1
    · refine lv_tableIn (tgt := 430) (off := 397) b.1 b.2.1 dL_law_33 (by rw [c1]; decide) (by rw [c1]; decide) (by rw [c1] <;> rfl) (by decide) ?_
      obtain ⟨r, fx, fm, hI1⟩ := s_status n cells slots h u (xs (i + 1)) (xs (i + 2)) (xs (i + 3)) (xs (i + 4)) hI
      have hB1 := hBd _ _ _ _ _ hI1
      refine lv_aload_n b.1 b.2.1 dL_law_430 rfl (lv_at hl 1 rfl) ?_
      refine lw_arg b hX hbl hE.2.2 hl (j0 := 0) (j3 := 3) rfl rfl 1 (by omega) hL (ki := 1) (q1 := 434) (q2 := 435) (q3 := 436) (by decide) dL_law_431 dL_law_432 (fun _ w => lv_iconst (v := 1) b.1 b.2.1 dL_law_433 (by decide) w) dL_law_434 rfl dL_law_435 rfl ?_
      refine lw_arg b hX hbl hE.2.2 hl (j0 := 0) (j3 := 3) rfl rfl 2 (by omega) hL (ki := 2) (q1 := 439) (q2 := 440) (q3 := 441) (by decide) dL_law_436 dL_law_437 (fun _ w => lv_iconst (v := 2) b.1 b.2.1 dL_law_438 (by decide) w) dL_law_439 rfl dL_law_440 rfl ?_
      refine lw_bool b (q3 := 444) (q4 := 445) (q7 := 448) (q8 := 449) dL_law_441 rfl rfl dL_law_444 rfl dL_law_445 rfl dL_law_448 ?_
      refine lw_arg b hX hbl hE.2.2 hl (j0 := 0) (j3 := 3) rfl rfl 3 (by omega) hL (ki := 3) (q1 := 452) (q2 := 453) (q3 := 454) (by decide) dL_law_449 dL_law_450 (fun _ w => lv_iconst (v := 3) b.1 b.2.1 dL_law_451 (by decide) w) dL_law_452 rfl dL_law_453 rfl ?_
      refine lw_arg b hX hbl hE.2.2 hl (j0 := 0) (j3 := 3) rfl rfl 4 (by omega) hL (ki := 4) (q1 := 457) (q2 := 458) (q3 := 459) (by decide) dL_law_454 dL_law_455 (fun _ w => lv_iconst (v := 4) b.1 b.2.1 dL_law_456 (by decide) w) dL_law_457 rfl dL_law_458 rfl ?_
      refine kl_callX b h0 zs hE hB0.2.2 (CX11_status l D aC _ ZS_ok fx) mc_X11_status (in5 87 rfl rfl) mi_X11_status ms_X11_status ini_RX11 ok_X11_status ⟨Nat.le_of_ble_eq_true rfl, Nat.le_of_ble_eq_true rfl⟩ rfl hl.1 rfl (k_room _ (by exact Nat.le_of_ble_eq_true rfl)) ⟨rmC (show cells + 0 ≤ 540000 from hB1.1), rmS (show slots + 0 ≤ 6000000 from hB1.2.1)⟩ dL_law_459 (fun H locs hE => ?_)
      refine lv_aload_n b.1 b.2.1 dL_law_462 rfl (lv_at hl 2 rfl) ?_
      refine lw_arg b hX hbl hE.2.2 hl (j0 := 0) (j3 := 3) rfl rfl 1 (by omega) hL (ki := 1) (q1 := 466) (q2 := 467) (q3 := 468) (by decide) dL_law_463 dL_law_464 (fun _ w => lv_iconst (v := 1) b.1 b.2.1 dL_law_465 (by decide) w) dL_law_466 rfl dL_law_467 rfl ?_
      refine lw_arg b hX hbl hE.2.2 hl (j0 := 0) (j3 := 3) rfl rfl 2 (by omega) hL (ki := 2) (q1 := 471) (q2 := 472) (q3 := 473) (by decide) dL_law_468 dL_law_469 (fun _ w => lv_iconst (v := 2) b.1 b.2.1 dL_law_470 (by decide) w) dL_law_471 rfl dL_law_472 rfl ?_
      refine lw_bool b (q3 := 476) (q4 := 477) (q7 := 480) (q8 := 481) dL_law_473 rfl rfl dL_law_476 rfl dL_law_477 rfl dL_law_480 ?_
      refine lw_arg b hX hbl hE.2.2 hl (j0 := 0) (j3 := 3) rfl rfl 3 (by omega) hL (ki := 3) (q1 := 484) (q2 := 485) (q3 := 486) (by decide) dL_law_481 dL_law_482 (fun _ w => lv_iconst (v := 3) b.1 b.2.1 dL_law_483 (by decide) w) dL_law_484 rfl dL_law_485 rfl ?_
      refine lw_arg b hX hbl hE.2.2 hl (j0 := 0) (j3 := 3) rfl rfl 4 (by omega) hL (ki := 4) (q1 := 489) (q2 := 490) (q3 := 491) (by decide) dL_law_486 dL_law_487 (fun _ w => lv_iconst (v := 4) b.1 b.2.1 dL_law_488 (by decide) w) dL_law_489 rfl dL_law_490 rfl ?_
      refine kl_callM b h0 hE (CX12_status l D aC _ (fun _ _ _ _ _ _ _ _ => trivial) fm) mc_X12_status (in8 84 rfl rfl) mi_X12_status ms_X12_status ini_RX12 ok_X12_status ⟨Nat.le_of_ble_eq_true rfl, Nat.le_of_ble_eq_true rfl⟩ rfl hl.1 rfl (k_room _ (by exact Nat.le_of_ble_eq_true rfl)) ⟨rmC hB1.1, rmS hB1.2.1⟩ dL_law_491 (fun H locs hE => ?_)
      refine lv_icmp_eq (tgt := 780) b.1 b.2.1 dL_law_494 (by decide) (fun _ => ?_) (fun c2 => absurd rfl c2)
      exact nxt _ _ _ _ hI1 _ _ hE
    have c108 := lv_neT (a := 8) c1 (by decide)
    rcases Decidable.em (yy = 9) with c1 | c1
    · refine lv_tableIn (tgt := 499) (off := 466) b.1 b.2.1 dL_law_33 (by rw [c1]; decide) (by rw [c1]; decide) (by rw [c1] <;> rfl) (by decide) ?_
      obtain ⟨h', r, fx, fm, hI1⟩ := s_why n cells slots h u (xs (i + 1)) (xs (i + 2)) (xs (i + 3)) (xs (i + 4)) (xs (i + 5)) hI
      have hB1 := hBd _ _ _ _ _ hI1
      refine lv_aload_n b.1 b.2.1 dL_law_499 rfl (lv_at hl 1 rfl) ?_
      refine lw_arg b hX hbl hE.2.2 hl (j0 := 0) (j3 := 3) rfl rfl 1 (by omega) hL (ki := 1) (q1 := 503) (q2 := 504) (q3 := 505) (by decide) dL_law_500 dL_law_501 (fun _ w => lv_iconst (v := 1) b.1 b.2.1 dL_law_502 (by decide) w) dL_law_503 rfl dL_law_504 rfl ?_
      refine lw_arg b hX hbl hE.2.2 hl (j0 := 0) (j3 := 3) rfl rfl 2 (by omega) hL (ki := 2) (q1 := 508) (q2 := 509) (q3 := 510) (by decide) dL_law_505 dL_law_506 (fun _ w => lv_iconst (v := 2) b.1 b.2.1 dL_law_507 (by decide) w) dL_law_508 rfl dL_law_509 rfl ?_
      refine lw_bool b (q3 := 513) (q4 := 514) (q7 := 517) (q8 := 518) dL_law_510 rfl rfl dL_law_513 rfl dL_law_514 rfl dL_law_517 ?_
      refine lw_arg b hX hbl hE.2.2 hl (j0 := 0) (j3 := 3) rfl rfl 3 (by omega) hL (ki := 3) (q1 := 521) (q2 := 522) (q3 := 523) (by decide) dL_law_518 dL_law_519 (fun _ w => lv_iconst (v := 3) b.1 b.2.1 dL_law_520 (by decide) w) dL_law_521 rfl dL_law_522 rfl ?_
      refine lw_arg b hX hbl hE.2.2 hl (j0 := 0) (j3 := 3) rfl rfl 4 (by omega) hL (ki := 4) (q1 := 526) (q2 := 527) (q3 := 528) (by decide) dL_law_523 dL_law_524 (fun _ w => lv_iconst (v := 4) b.1 b.2.1 dL_law_525 (by decide) w) dL_law_526 rfl dL_law_527 rfl ?_
      refine lw_arg b hX hbl hE.2.2 hl (j0 := 0) (j3 := 3) rfl rfl 5 (by omega) hL (ki := 5) (q1 := 531) (q2 := 532) (q3 := 533) (by decide) dL_law_528 dL_law_529 (fun _ w => lv_iconst (v := 5) b.1 b.2.1 dL_law_530 (by decide) w) dL_law_531 rfl dL_law_532 rfl ?_
      refine kl_callX b h0 zs hE hB0.2.2 (CX11_why l D aC _ ZS_ok fx) mc_X11_why (in5 96 rfl rfl) mi_X11_why ms_X11_why ini_RX11 ok_X11_why ⟨Nat.le_of_ble_eq_true rfl, Nat.le_of_ble_eq_true rfl⟩ rfl hl.1 rfl (k_room _ (by exact Nat.le_of_ble_eq_true rfl)) ⟨rmC (show cells + 0 ≤ 540000 from hB1.1), rmS (show slots + 0 ≤ 6000000 from hB1.2.1)⟩ dL_law_533 (fun H locs hE => ?_)
      refine lv_aload_n b.1 b.2.1 dL_law_536 rfl (lv_at hl 2 rfl) ?_
      refine lw_arg b hX hbl hE.2.2 hl (j0 := 0) (j3 := 3) rfl rfl 1 (by omega) hL (ki := 1) (q1 := 540) (q2 := 541) (q3 := 542) (by decide) dL_law_537 dL_law_538 (fun _ w => lv_iconst (v := 1) b.1 b.2.1 dL_law_539 (by decide) w) dL_law_540 rfl dL_law_541 rfl ?_
      refine lw_arg b hX hbl hE.2.2 hl (j0 := 0) (j3 := 3) rfl rfl 2 (by omega) hL (ki := 2) (q1 := 545) (q2 := 546) (q3 := 547) (by decide) dL_law_542 dL_law_543 (fun _ w => lv_iconst (v := 2) b.1 b.2.1 dL_law_544 (by decide) w) dL_law_545 rfl dL_law_546 rfl ?_
      refine lw_bool b (q3 := 550) (q4 := 551) (q7 := 554) (q8 := 555) dL_law_547 rfl rfl dL_law_550 rfl dL_law_551 rfl dL_law_554 ?_
      refine lw_arg b hX hbl hE.2.2 hl (j0 := 0) (j3 := 3) rfl rfl 3 (by omega) hL (ki := 3) (q1 := 558) (q2 := 559) (q3 := 560) (by decide) dL_law_555 dL_law_556 (fun _ w => lv_iconst (v := 3) b.1 b.2.1 dL_law_557 (by decide) w) dL_law_558 rfl dL_law_559 rfl ?_
      refine lw_arg b hX hbl hE.2.2 hl (j0 := 0) (j3 := 3) rfl rfl 4 (by omega) hL (ki := 4) (q1 := 563) (q2 := 564) (q3 := 565) (by decide) dL_law_560 dL_law_561 (fun _ w => lv_iconst (v := 4) b.1 b.2.1 dL_law_562 (by decide) w) dL_law_563 rfl dL_law_564 rfl ?_
      refine lw_arg b hX hbl hE.2.2 hl (j0 := 0) (j3 := 3) rfl rfl 5 (by omega) hL (ki := 5) (q1 := 568) (q2 := 569) (q3 := 570) (by decide) dL_law_565 dL_law_566 (fun _ w => lv_iconst (v := 5) b.1 b.2.1 dL_law_567 (by decide) w) dL_law_568 rfl dL_law_569 rfl ?_
      refine kl_callM b h0 hE (CX12_why l D aC _ (fun _ _ _ _ _ _ _ _ => trivial) fm) mc_X12_why (in8 88 rfl rfl) mi_X12_why ms_X12_why ini_RX12 ok_X12_why ⟨Nat.le_of_ble_eq_true rfl, Nat.le_of_ble_eq_true rfl⟩ rfl hl.1 rfl (k_room _ (by exact Nat.le_of_ble_eq_true rfl)) ⟨rmC hB1.1, rmS hB1.2.1⟩ dL_law_570 (fun H locs hE => ?_)
      refine lv_icmp_eq (tgt := 780) b.1 b.2.1 dL_law_573 (by decide) (fun _ => ?_) (fun c2 => absurd rfl c2)
      exact nxt _ _ _ _ hI1 _ _ hE
    have c109 := lv_neT (a := 9) c1 (by decide)
    rcases Decidable.em (yy = 10) with c1 | c1
    · refine lv_tableIn (tgt := 578) (off := 545) b.1 b.2.1 dL_law_33 (by rw [c1]; decide) (by rw [c1]; decide) (by rw [c1] <;> rfl) (by decide) ?_
      obtain ⟨r, fx, fm, hI1⟩ := s_sum n cells slots h u (xs (i + 1)) (xs (i + 2)) (xs (i + 3)) hI
      have hB1 := hBd _ _ _ _ _ hI1
      refine lv_aload_n b.1 b.2.1 dL_law_578 rfl (lv_at hl 1 rfl) ?_
      refine lw_arg b hX hbl hE.2.2 hl (j0 := 0) (j3 := 3) rfl rfl 1 (by omega) hL (ki := 1) (q1 := 582) (q2 := 583) (q3 := 584) (by decide) dL_law_579 dL_law_580 (fun _ w => lv_iconst (v := 1) b.1 b.2.1 dL_law_581 (by decide) w) dL_law_582 rfl dL_law_583 rfl ?_
      refine lw_arg b hX hbl hE.2.2 hl (j0 := 0) (j3 := 3) rfl rfl 2 (by omega) hL (ki := 2) (q1 := 587) (q2 := 588) (q3 := 589) (by decide) dL_law_584 dL_law_585 (fun _ w => lv_iconst (v := 2) b.1 b.2.1 dL_law_586 (by decide) w) dL_law_587 rfl dL_law_588 rfl ?_
      refine lw_arg b hX hbl hE.2.2 hl (j0 := 0) (j3 := 3) rfl rfl 3 (by omega) hL (ki := 3) (q1 := 592) (q2 := 593) (q3 := 594) (by decide) dL_law_589 dL_law_590 (fun _ w => lv_iconst (v := 3) b.1 b.2.1 dL_law_591 (by decide) w) dL_law_592 rfl dL_law_593 rfl ?_
      refine kl_callX b h0 zs hE hB0.2.2 (CX11_sum l D aC _ ZS_ok fx) mc_X11_sum (in5 108 rfl rfl) mi_X11_sum ms_X11_sum ini_RX11 ok_X11_sum ⟨Nat.le_of_ble_eq_true rfl, Nat.le_of_ble_eq_true rfl⟩ rfl hl.1 rfl (k_room _ (by exact Nat.le_of_ble_eq_true rfl)) ⟨rmC (show cells + 0 ≤ 540000 from hB1.1), rmS (show slots + 0 ≤ 6000000 from hB1.2.1)⟩ dL_law_594 (fun H locs hE => ?_)
      refine lv_aload_n b.1 b.2.1 dL_law_597 rfl (lv_at hl 2 rfl) ?_
      refine lw_arg b hX hbl hE.2.2 hl (j0 := 0) (j3 := 3) rfl rfl 1 (by omega) hL (ki := 1) (q1 := 601) (q2 := 602) (q3 := 603) (by decide) dL_law_598 dL_law_599 (fun _ w => lv_iconst (v := 1) b.1 b.2.1 dL_law_600 (by decide) w) dL_law_601 rfl dL_law_602 rfl ?_
      refine lw_arg b hX hbl hE.2.2 hl (j0 := 0) (j3 := 3) rfl rfl 2 (by omega) hL (ki := 2) (q1 := 606) (q2 := 607) (q3 := 608) (by decide) dL_law_603 dL_law_604 (fun _ w => lv_iconst (v := 2) b.1 b.2.1 dL_law_605 (by decide) w) dL_law_606 rfl dL_law_607 rfl ?_
      refine lw_arg b hX hbl hE.2.2 hl (j0 := 0) (j3 := 3) rfl rfl 3 (by omega) hL (ki := 3) (q1 := 611) (q2 := 612) (q3 := 613) (by decide) dL_law_608 dL_law_609 (fun _ w => lv_iconst (v := 3) b.1 b.2.1 dL_law_610 (by decide) w) dL_law_611 rfl dL_law_612 rfl ?_
      refine kl_callM b h0 hE (CX12_sum l D aC _ (fun _ _ _ _ _ _ _ _ => trivial) fm) mc_X12_sum (in8 92 rfl rfl) mi_X12_sum ms_X12_sum ini_RX12 ok_X12_sum ⟨Nat.le_of_ble_eq_true rfl, Nat.le_of_ble_eq_true rfl⟩ rfl hl.1 rfl (k_room _ (by exact Nat.le_of_ble_eq_true rfl)) ⟨rmC hB1.1, rmS hB1.2.1⟩ dL_law_613 (fun H locs hE => ?_)
      refine W.lcmp b.1 b.2.1 dL_law_616 ?_
      refine lv_if_eq (tgt := 780) b.1 b.2.1 dL_law_617 (by decide) (fun _ => ?_) (fun c2 => absurd (lgc0 _) c2)
      exact nxt _ _ _ _ hI1 _ _ hE
    have c110 := lv_neT (a := 10) c1 (by decide)
    rcases Decidable.em (yy = 11) with c1 | c1
    · refine lv_tableIn (tgt := 622) (off := 589) b.1 b.2.1 dL_law_33 (by rw [c1]; decide) (by rw [c1]; decide) (by rw [c1] <;> rfl) (by decide) ?_
      obtain ⟨h', r, kc, ks, u', fx, fm, hI1⟩ := s_text n cells slots h u  hI
      have hB1 := hBd _ _ _ _ _ hI1
      refine lv_aload_n b.1 b.2.1 dL_law_622 rfl (lv_at hl 1 rfl) ?_
      refine kl_callX b h0 zs hE hB0.2.2 (CX11_text l D aC _ ZS_ok (fun _ z => z) fx) mc_X11_text (in5 118 rfl rfl) mi_X11_text ms_X11_text ini_RX11 ok_X11_text ⟨Nat.le_of_ble_eq_true rfl, Nat.le_of_ble_eq_true rfl⟩ rfl hl.1 rfl (k_room _ (by exact Nat.le_of_ble_eq_true rfl)) ⟨rmC hB1.1, rmS hB1.2.1⟩ dL_law_623 (fun H locs hE => ?_)
      refine lv_aload_n b.1 b.2.1 dL_law_626 rfl (lv_at hl 2 rfl) ?_
      refine kl_callM b h0 hE (CX12_text l D aC _ (fun _ _ _ _ _ _ _ _ => trivial) fm) mc_X12_text (in8 97 rfl rfl) mi_X12_text ms_X12_text ini_RX12 ok_X12_text ⟨Nat.le_of_ble_eq_true rfl, Nat.le_of_ble_eq_true rfl⟩ rfl hl.1 rfl (k_room _ (by exact Nat.le_of_ble_eq_true rfl)) ⟨rmC hB1.1, rmS hB1.2.1⟩ dL_law_627 (fun H locs hE => ?_)
      refine lv_icmp_eq (tgt := 780) b.1 b.2.1 dL_law_630 (by decide) (fun _ => ?_) (fun c2 => absurd rfl c2)
      exact nxt _ _ _ _ hI1 _ _ hE
    have c111 := lv_neT (a := 11) c1 (by decide)
    rcases Decidable.em (yy = 12) with c1 | c1
    · refine lv_tableIn (tgt := 635) (off := 602) b.1 b.2.1 dL_law_33 (by rw [c1]; decide) (by rw [c1]; decide) (by rw [c1] <;> rfl) (by decide) ?_
      obtain ⟨r, fx, fm, hI1⟩ := s_out n cells slots h u (xs (i + 1)) hI
      have hB1 := hBd _ _ _ _ _ hI1
      refine lv_aload_n b.1 b.2.1 dL_law_635 rfl (lv_at hl 1 rfl) ?_
      refine lw_arg b hX hbl hE.2.2 hl (j0 := 0) (j3 := 3) rfl rfl 1 (by omega) hL (ki := 1) (q1 := 639) (q2 := 640) (q3 := 641) (by decide) dL_law_636 dL_law_637 (fun _ w => lv_iconst (v := 1) b.1 b.2.1 dL_law_638 (by decide) w) dL_law_639 rfl dL_law_640 rfl ?_
      refine kl_callX b h0 zs hE hB0.2.2 (CX11_out l D aC _ ZS_ok fx) mc_X11_out (in5 159 rfl rfl) mi_X11_out ms_X11_out ini_RX11 ok_X11_out ⟨Nat.le_of_ble_eq_true rfl, Nat.le_of_ble_eq_true rfl⟩ rfl hl.1 rfl (k_room _ (by exact Nat.le_of_ble_eq_true rfl)) ⟨rmC (show cells + 0 ≤ 540000 from hB1.1), rmS (show slots + 0 ≤ 6000000 from hB1.2.1)⟩ dL_law_641 (fun H locs hE => ?_)
      refine lv_aload_n b.1 b.2.1 dL_law_644 rfl (lv_at hl 2 rfl) ?_
      refine lw_arg b hX hbl hE.2.2 hl (j0 := 0) (j3 := 3) rfl rfl 1 (by omega) hL (ki := 1) (q1 := 648) (q2 := 649) (q3 := 650) (by decide) dL_law_645 dL_law_646 (fun _ w => lv_iconst (v := 1) b.1 b.2.1 dL_law_647 (by decide) w) dL_law_648 rfl dL_law_649 rfl ?_
      refine kl_callM b h0 hE (CX12_out l D aC _ (fun _ _ _ _ _ _ _ _ => trivial) fm) mc_X12_out (in8 123 rfl rfl) mi_X12_out ms_X12_out ini_RX12 ok_X12_out ⟨Nat.le_of_ble_eq_true rfl, Nat.le_of_ble_eq_true rfl⟩ rfl hl.1 rfl (k_room _ (by exact Nat.le_of_ble_eq_true rfl)) ⟨rmC hB1.1, rmS hB1.2.1⟩ dL_law_650 (fun H locs hE => ?_)
      refine lv_icmp_eq (tgt := 780) b.1 b.2.1 dL_law_653 (by decide) (fun _ => ?_) (fun c2 => absurd rfl c2)
      exact nxt _ _ _ _ hI1 _ _ hE
    have c112 := lv_neT (a := 12) c1 (by decide)
    rcases Decidable.em (yy = 13) with c1 | c1
    · refine lv_tableIn (tgt := 658) (off := 625) b.1 b.2.1 dL_law_33 (by rw [c1]; decide) (by rw [c1]; decide) (by rw [c1] <;> rfl) (by decide) ?_
      obtain ⟨r, fx, fm, hI1⟩ := s_rule n cells slots h u (xs (i + 1)) (xs (i + 2)) hI
      have hB1 := hBd _ _ _ _ _ hI1
      refine lv_aload_n b.1 b.2.1 dL_law_658 rfl (lv_at hl 1 rfl) ?_
      refine lw_arg b hX hbl hE.2.2 hl (j0 := 0) (j3 := 3) rfl rfl 1 (by omega) hL (ki := 1) (q1 := 662) (q2 := 663) (q3 := 664) (by decide) dL_law_659 dL_law_660 (fun _ w => lv_iconst (v := 1) b.1 b.2.1 dL_law_661 (by decide) w) dL_law_662 rfl dL_law_663 rfl ?_
      refine lw_arg b hX hbl hE.2.2 hl (j0 := 0) (j3 := 3) rfl rfl 2 (by omega) hL (ki := 2) (q1 := 667) (q2 := 668) (q3 := 669) (by decide) dL_law_664 dL_law_665 (fun _ w => lv_iconst (v := 2) b.1 b.2.1 dL_law_666 (by decide) w) dL_law_667 rfl dL_law_668 rfl ?_
      refine kl_callX b h0 zs hE hB0.2.2 (CX11_rule l D aC _ ZS_ok fx) mc_X11_rule (in5 164 rfl rfl) mi_X11_rule ms_X11_rule ini_RX11 ok_X11_rule ⟨Nat.le_of_ble_eq_true rfl, Nat.le_of_ble_eq_true rfl⟩ rfl hl.1 rfl (k_room _ (by exact Nat.le_of_ble_eq_true rfl)) ⟨rmC (show cells + 0 ≤ 540000 from hB1.1), rmS (show slots + 0 ≤ 6000000 from hB1.2.1)⟩ dL_law_669 (fun H locs hE => ?_)
      refine lv_aload_n b.1 b.2.1 dL_law_672 rfl (lv_at hl 2 rfl) ?_
      refine lw_arg b hX hbl hE.2.2 hl (j0 := 0) (j3 := 3) rfl rfl 1 (by omega) hL (ki := 1) (q1 := 676) (q2 := 677) (q3 := 678) (by decide) dL_law_673 dL_law_674 (fun _ w => lv_iconst (v := 1) b.1 b.2.1 dL_law_675 (by decide) w) dL_law_676 rfl dL_law_677 rfl ?_
      refine lw_arg b hX hbl hE.2.2 hl (j0 := 0) (j3 := 3) rfl rfl 2 (by omega) hL (ki := 2) (q1 := 681) (q2 := 682) (q3 := 683) (by decide) dL_law_678 dL_law_679 (fun _ w => lv_iconst (v := 2) b.1 b.2.1 dL_law_680 (by decide) w) dL_law_681 rfl dL_law_682 rfl ?_
      refine kl_callM b h0 hE (CX12_rule l D aC _ (fun _ _ _ _ _ _ _ _ => trivial) fm) mc_X12_rule (in8 127 rfl rfl) mi_X12_rule ms_X12_rule ini_RX12 ok_X12_rule ⟨Nat.le_of_ble_eq_true rfl, Nat.le_of_ble_eq_true rfl⟩ rfl hl.1 rfl (k_room _ (by exact Nat.le_of_ble_eq_true rfl)) ⟨rmC hB1.1, rmS hB1.2.1⟩ dL_law_683 (fun H locs hE => ?_)
      refine lv_icmp_eq (tgt := 780) b.1 b.2.1 dL_law_686 (by decide) (fun _ => ?_) (fun c2 => absurd rfl c2)
      exact nxt _ _ _ _ hI1 _ _ hE
    have c113 := lv_neT (a := 13) c1 (by decide)
    rcases Decidable.em (yy = 14) with c1 | c1
    · refine lv_tableIn (tgt := 691) (off := 658) b.1 b.2.1 dL_law_33 (by rw [c1]; decide) (by rw [c1]; decide) (by rw [c1] <;> rfl) (by decide) ?_
      obtain ⟨r, fx, fm, hI1⟩ := s_law n cells slots h u (xs (i + 1)) (xs (i + 2)) hI
      have hB1 := hBd _ _ _ _ _ hI1
      refine lv_aload_n b.1 b.2.1 dL_law_691 rfl (lv_at hl 1 rfl) ?_
      refine lw_arg b hX hbl hE.2.2 hl (j0 := 0) (j3 := 3) rfl rfl 1 (by omega) hL (ki := 1) (q1 := 695) (q2 := 696) (q3 := 697) (by decide) dL_law_692 dL_law_693 (fun _ w => lv_iconst (v := 1) b.1 b.2.1 dL_law_694 (by decide) w) dL_law_695 rfl dL_law_696 rfl ?_
      refine lw_arg b hX hbl hE.2.2 hl (j0 := 0) (j3 := 3) rfl rfl 2 (by omega) hL (ki := 2) (q1 := 700) (q2 := 701) (q3 := 702) (by decide) dL_law_697 dL_law_698 (fun _ w => lv_iconst (v := 2) b.1 b.2.1 dL_law_699 (by decide) w) dL_law_700 rfl dL_law_701 rfl ?_
      refine kl_callX b h0 zs hE hB0.2.2 (CX11_law l D aC _ ZS_ok fx) mc_X11_law (in5 169 rfl rfl) mi_X11_law ms_X11_law ini_RX11 ok_X11_law ⟨Nat.le_of_ble_eq_true rfl, Nat.le_of_ble_eq_true rfl⟩ rfl hl.1 rfl (k_room _ (by exact Nat.le_of_ble_eq_true rfl)) ⟨rmC (show cells + 0 ≤ 540000 from hB1.1), rmS (show slots + 0 ≤ 6000000 from hB1.2.1)⟩ dL_law_702 (fun H locs hE => ?_)
      refine lv_aload_n b.1 b.2.1 dL_law_705 rfl (lv_at hl 2 rfl) ?_
      refine lw_arg b hX hbl hE.2.2 hl (j0 := 0) (j3 := 3) rfl rfl 1 (by omega) hL (ki := 1) (q1 := 709) (q2 := 710) (q3 := 711) (by decide) dL_law_706 dL_law_707 (fun _ w => lv_iconst (v := 1) b.1 b.2.1 dL_law_708 (by decide) w) dL_law_709 rfl dL_law_710 rfl ?_
      refine lw_arg b hX hbl hE.2.2 hl (j0 := 0) (j3 := 3) rfl rfl 2 (by omega) hL (ki := 2) (q1 := 714) (q2 := 715) (q3 := 716) (by decide) dL_law_711 dL_law_712 (fun _ w => lv_iconst (v := 2) b.1 b.2.1 dL_law_713 (by decide) w) dL_law_714 rfl dL_law_715 rfl ?_
      refine kl_callM b h0 hE (CX12_law l D aC _ (fun _ _ _ _ _ _ _ _ => trivial) fm) mc_X12_law (in8 131 rfl rfl) mi_X12_law ms_X12_law ini_RX12 ok_X12_law ⟨Nat.le_of_ble_eq_true rfl, Nat.le_of_ble_eq_true rfl⟩ rfl hl.1 rfl (k_room _ (by exact Nat.le_of_ble_eq_true rfl)) ⟨rmC hB1.1, rmS hB1.2.1⟩ dL_law_716 (fun H locs hE => ?_)
      refine lv_icmp_eq (tgt := 780) b.1 b.2.1 dL_law_719 (by decide) (fun _ => ?_) (fun c2 => absurd rfl c2)
      exact nxt _ _ _ _ hI1 _ _ hE
    have c114 := lv_neT (a := 14) c1 (by decide)
    rcases Decidable.em (yy = 15) with c1 | c1
    · refine lv_tableIn (tgt := 724) (off := 691) b.1 b.2.1 dL_law_33 (by rw [c1]; decide) (by rw [c1]; decide) (by rw [c1] <;> rfl) (by decide) ?_
      obtain ⟨r, fx, fm, hI1⟩ := s_above n cells slots h u (xs (i + 1)) (xs (i + 2)) hI
      have hB1 := hBd _ _ _ _ _ hI1
      refine lv_aload_n b.1 b.2.1 dL_law_724 rfl (lv_at hl 1 rfl) ?_
      refine lw_arg b hX hbl hE.2.2 hl (j0 := 0) (j3 := 3) rfl rfl 1 (by omega) hL (ki := 1) (q1 := 728) (q2 := 729) (q3 := 730) (by decide) dL_law_725 dL_law_726 (fun _ w => lv_iconst (v := 1) b.1 b.2.1 dL_law_727 (by decide) w) dL_law_728 rfl dL_law_729 rfl ?_
      refine lw_arg b hX hbl hE.2.2 hl (j0 := 0) (j3 := 3) rfl rfl 2 (by omega) hL (ki := 2) (q1 := 733) (q2 := 734) (q3 := 735) (by decide) dL_law_730 dL_law_731 (fun _ w => lv_iconst (v := 2) b.1 b.2.1 dL_law_732 (by decide) w) dL_law_733 rfl dL_law_734 rfl ?_
      refine kl_callX b h0 zs hE hB0.2.2 (CX11_above l D aC _ ZS_ok fx) mc_X11_above (in5 174 rfl rfl) mi_X11_above ms_X11_above ini_RX11 ok_X11_above ⟨Nat.le_of_ble_eq_true rfl, Nat.le_of_ble_eq_true rfl⟩ rfl hl.1 rfl (k_room _ (by exact Nat.le_of_ble_eq_true rfl)) ⟨rmC (show cells + 0 ≤ 540000 from hB1.1), rmS (show slots + 0 ≤ 6000000 from hB1.2.1)⟩ dL_law_735 (fun H locs hE => ?_)
      refine lv_aload_n b.1 b.2.1 dL_law_738 rfl (lv_at hl 2 rfl) ?_
      refine lw_arg b hX hbl hE.2.2 hl (j0 := 0) (j3 := 3) rfl rfl 1 (by omega) hL (ki := 1) (q1 := 742) (q2 := 743) (q3 := 744) (by decide) dL_law_739 dL_law_740 (fun _ w => lv_iconst (v := 1) b.1 b.2.1 dL_law_741 (by decide) w) dL_law_742 rfl dL_law_743 rfl ?_
      refine lw_arg b hX hbl hE.2.2 hl (j0 := 0) (j3 := 3) rfl rfl 2 (by omega) hL (ki := 2) (q1 := 747) (q2 := 748) (q3 := 749) (by decide) dL_law_744 dL_law_745 (fun _ w => lv_iconst (v := 2) b.1 b.2.1 dL_law_746 (by decide) w) dL_law_747 rfl dL_law_748 rfl ?_
      refine kl_callM b h0 hE (CX12_above l D aC _ (fun _ _ _ _ _ _ _ _ => trivial) fm) mc_X12_above (in7 225 rfl rfl) mi_X12_above ms_X12_above ini_RX12 ok_X12_above ⟨Nat.le_of_ble_eq_true rfl, Nat.le_of_ble_eq_true rfl⟩ rfl hl.1 rfl (k_room _ (by exact Nat.le_of_ble_eq_true rfl)) ⟨rmC hB1.1, rmS hB1.2.1⟩ dL_law_749 (fun H locs hE => ?_)
      refine lv_icmp_eq (tgt := 780) b.1 b.2.1 dL_law_752 (by decide) (fun _ => ?_) (fun c2 => absurd rfl c2)
      exact nxt _ _ _ _ hI1 _ _ hE
    have c115 := lv_neT (a := 15) c1 (by decide)
    rcases Decidable.em (yy = 16) with c1 | c1
    · refine lv_tableIn (tgt := 757) (off := 724) b.1 b.2.1 dL_law_33 (by rw [c1]; decide) (by rw [c1]; decide) (by rw [c1] <;> rfl) (by decide) ?_
      obtain ⟨r, fx, fm, hI1⟩ := s_count n cells slots h u (xs (i + 1)) hI
      have hB1 := hBd _ _ _ _ _ hI1
      refine lv_aload_n b.1 b.2.1 dL_law_757 rfl (lv_at hl 1 rfl) ?_
      refine lw_arg b hX hbl hE.2.2 hl (j0 := 0) (j3 := 3) rfl rfl 1 (by omega) hL (ki := 1) (q1 := 761) (q2 := 762) (q3 := 763) (by decide) dL_law_758 dL_law_759 (fun _ w => lv_iconst (v := 1) b.1 b.2.1 dL_law_760 (by decide) w) dL_law_761 rfl dL_law_762 rfl ?_
      refine kl_callX b h0 zs hE hB0.2.2 (CX11_count l D aC _ ZS_ok fx) mc_X11_count (in5 180 rfl rfl) mi_X11_count ms_X11_count ini_RX11 ok_X11_count ⟨Nat.le_of_ble_eq_true rfl, Nat.le_of_ble_eq_true rfl⟩ rfl hl.1 rfl (k_room _ (by exact Nat.le_of_ble_eq_true rfl)) ⟨rmC (show cells + 0 ≤ 540000 from hB1.1), rmS (show slots + 0 ≤ 6000000 from hB1.2.1)⟩ dL_law_763 (fun H locs hE => ?_)
      refine lv_aload_n b.1 b.2.1 dL_law_766 rfl (lv_at hl 2 rfl) ?_
      refine lw_arg b hX hbl hE.2.2 hl (j0 := 0) (j3 := 3) rfl rfl 1 (by omega) hL (ki := 1) (q1 := 770) (q2 := 771) (q3 := 772) (by decide) dL_law_767 dL_law_768 (fun _ w => lv_iconst (v := 1) b.1 b.2.1 dL_law_769 (by decide) w) dL_law_770 rfl dL_law_771 rfl ?_
      refine kl_callM b h0 hE (CX12_count l D aC _ (fun _ _ _ _ _ _ _ _ => trivial) fm) mc_X12_count (in8 135 rfl rfl) mi_X12_count ms_X12_count ini_RX12 ok_X12_count ⟨Nat.le_of_ble_eq_true rfl, Nat.le_of_ble_eq_true rfl⟩ rfl hl.1 rfl (k_room _ (by exact Nat.le_of_ble_eq_true rfl)) ⟨rmC hB1.1, rmS hB1.2.1⟩ dL_law_772 (fun H locs hE => ?_)
      refine lv_icmp_eq (tgt := 780) b.1 b.2.1 dL_law_775 (by decide) (fun _ => ?_) (fun c2 => absurd rfl c2)
      exact nxt _ _ _ _ hI1 _ _ hE
    have c116 := lv_neT (a := 16) c1 (by decide)
    refine lv_tableOut (tgt := 780) b.1 b.2.1 dL_law_33 (by omega) (by decide) ?_
    exact nxt _ _ _ _ (hNo _ _ _ _ _ hI) _ _ hE
