section
variable {p : Program} {l : Launch} {e : Env} {s : State} {m : MethodId} {below : List Frame} {meth : Method} {c : Code} {D : va_G} {aC : Nat → ClassId} {ad : Nat → Nat}
theorem dX12_tellCond_0 : decode cX12_tellCond 0 = .ok (.aload_n 0, 1) := by decide +kernel
theorem dX12_tellCond_1 : decode cX12_tellCond 1 = .ok (.bipush 32, 2) := by decide +kernel
theorem dX12_tellCond_3 : decode cX12_tellCond 3 = .ok (.invokevirtual 312, 3) := by decide +kernel
theorem dX12_tellCond_6 : decode cX12_tellCond 6 = .ok (.ifCond .ne 38, 3) := by decide +kernel
theorem dX12_tellCond_9 : decode cX12_tellCond 9 = .ok (.aload_n 0, 1) := by decide +kernel
theorem dX12_tellCond_10 : decode cX12_tellCond 10 = .ok (.bipush 33, 2) := by decide +kernel
theorem dX12_tellCond_12 : decode cX12_tellCond 12 = .ok (.invokevirtual 312, 3) := by decide +kernel
theorem dX12_tellCond_15 : decode cX12_tellCond 15 = .ok (.ifCond .ne 29, 3) := by decide +kernel
theorem dX12_tellCond_18 : decode cX12_tellCond 18 = .ok (.aload_n 0, 1) := by decide +kernel
theorem dX12_tellCond_19 : decode cX12_tellCond 19 = .ok (.bipush 34, 2) := by decide +kernel
theorem dX12_tellCond_21 : decode cX12_tellCond 21 = .ok (.invokevirtual 312, 3) := by decide +kernel
theorem dX12_tellCond_24 : decode cX12_tellCond 24 = .ok (.ifCond .ne 20, 3) := by decide +kernel
theorem dX12_tellCond_27 : decode cX12_tellCond 27 = .ok (.aload_n 0, 1) := by decide +kernel
theorem dX12_tellCond_28 : decode cX12_tellCond 28 = .ok (.bipush 35, 2) := by decide +kernel
theorem dX12_tellCond_30 : decode cX12_tellCond 30 = .ok (.invokevirtual 312, 3) := by decide +kernel
theorem dX12_tellCond_33 : decode cX12_tellCond 33 = .ok (.ifCond .ne 11, 3) := by decide +kernel
theorem dX12_tellCond_36 : decode cX12_tellCond 36 = .ok (.aload_n 0, 1) := by decide +kernel
theorem dX12_tellCond_37 : decode cX12_tellCond 37 = .ok (.iconst 1, 1) := by decide +kernel
theorem dX12_tellCond_38 : decode cX12_tellCond 38 = .ok (.invokevirtual 312, 3) := by decide +kernel
theorem dX12_tellCond_41 : decode cX12_tellCond 41 = .ok (.ifCond .eq 7, 3) := by decide +kernel
theorem dX12_tellCond_44 : decode cX12_tellCond 44 = .ok (.iconst 1, 1) := by decide +kernel
theorem dX12_tellCond_45 : decode cX12_tellCond 45 = .ok (.goto 4, 3) := by decide +kernel
theorem dX12_tellCond_48 : decode cX12_tellCond 48 = .ok (.iconst 0, 1) := by decide +kernel
theorem dX12_tellCond_49 : decode cX12_tellCond 49 = .ok (.istore_n 1, 1) := by decide +kernel
theorem dX12_tellCond_50 : decode cX12_tellCond 50 = .ok (.iload_n 1, 1) := by decide +kernel
theorem dX12_tellCond_51 : decode cX12_tellCond 51 = .ok (.ifCond .ne 9, 3) := by decide +kernel
theorem dX12_tellCond_54 : decode cX12_tellCond 54 = .ok (.aload_n 0, 1) := by decide +kernel
theorem dX12_tellCond_55 : decode cX12_tellCond 55 = .ok (.iconst 1, 1) := by decide +kernel
theorem dX12_tellCond_56 : decode cX12_tellCond 56 = .ok (.invokevirtual 309, 3) := by decide +kernel
theorem dX12_tellCond_59 : decode cX12_tellCond 59 = .ok (.return_, 1) := by decide +kernel
theorem dX12_tellCond_60 : decode cX12_tellCond 60 = .ok (.aload_n 0, 1) := by decide +kernel
theorem dX12_tellCond_61 : decode cX12_tellCond 61 = .ok (.getfield 88, 3) := by decide +kernel
theorem dX12_tellCond_64 : decode cX12_tellCond 64 = .ok (.aload_n 0, 1) := by decide +kernel
theorem dX12_tellCond_65 : decode cX12_tellCond 65 = .ok (.getfield 384, 3) := by decide +kernel
theorem dX12_tellCond_68 : decode cX12_tellCond 68 = .ok (.iaload, 1) := by decide +kernel
theorem dX12_tellCond_69 : decode cX12_tellCond 69 = .ok (.bipush 6, 2) := by decide +kernel
theorem dX12_tellCond_71 : decode cX12_tellCond 71 = .ok (.if_icmp .ne 9, 3) := by decide +kernel
theorem dX12_tellCond_74 : decode cX12_tellCond 74 = .ok (.aload_n 0, 1) := by decide +kernel
theorem dX12_tellCond_75 : decode cX12_tellCond 75 = .ok (.iconst 2, 1) := by decide +kernel
theorem dX12_tellCond_76 : decode cX12_tellCond 76 = .ok (.invokevirtual 309, 3) := by decide +kernel
theorem dX12_tellCond_79 : decode cX12_tellCond 79 = .ok (.return_, 1) := by decide +kernel
theorem dX12_tellCond_80 : decode cX12_tellCond 80 = .ok (.bipush 6, 2) := by decide +kernel
theorem dX12_tellCond_82 : decode cX12_tellCond 82 = .ok (.aload_n 0, 1) := by decide +kernel
theorem dX12_tellCond_83 : decode cX12_tellCond 83 = .ok (.getfield 384, 3) := by decide +kernel
theorem dX12_tellCond_86 : decode cX12_tellCond 86 = .ok (.imul, 1) := by decide +kernel
theorem dX12_tellCond_87 : decode cX12_tellCond 87 = .ok (.aload_n 0, 1) := by decide +kernel
theorem dX12_tellCond_88 : decode cX12_tellCond 88 = .ok (.getfield 88, 3) := by decide +kernel
theorem dX12_tellCond_91 : decode cX12_tellCond 91 = .ok (.aload_n 0, 1) := by decide +kernel
theorem dX12_tellCond_92 : decode cX12_tellCond 92 = .ok (.getfield 384, 3) := by decide +kernel
theorem dX12_tellCond_95 : decode cX12_tellCond 95 = .ok (.iaload, 1) := by decide +kernel
theorem dX12_tellCond_96 : decode cX12_tellCond 96 = .ok (.iadd, 1) := by decide +kernel
theorem dX12_tellCond_97 : decode cX12_tellCond 97 = .ok (.istore_n 2, 1) := by decide +kernel
theorem dX12_tellCond_98 : decode cX12_tellCond 98 = .ok (.aload_n 0, 1) := by decide +kernel
theorem dX12_tellCond_99 : decode cX12_tellCond 99 = .ok (.bipush 32, 2) := by decide +kernel
theorem dX12_tellCond_101 : decode cX12_tellCond 101 = .ok (.invokevirtual 312, 3) := by decide +kernel
theorem dX12_tellCond_104 : decode cX12_tellCond 104 = .ok (.ifCond .ne 12, 3) := by decide +kernel
theorem dX12_tellCond_107 : decode cX12_tellCond 107 = .ok (.aload_n 0, 1) := by decide +kernel
theorem dX12_tellCond_108 : decode cX12_tellCond 108 = .ok (.bipush 33, 2) := by decide +kernel
theorem dX12_tellCond_110 : decode cX12_tellCond 110 = .ok (.invokevirtual 312, 3) := by decide +kernel
theorem dX12_tellCond_113 : decode cX12_tellCond 113 = .ok (.ifCond .eq 61, 3) := by decide +kernel
theorem dX12_tellCond_116 : decode cX12_tellCond 116 = .ok (.aload_n 0, 1) := by decide +kernel
theorem dX12_tellCond_117 : decode cX12_tellCond 117 = .ok (.getfield 119, 3) := by decide +kernel
theorem dX12_tellCond_120 : decode cX12_tellCond 120 = .ok (.iload_n 2, 1) := by decide +kernel
theorem dX12_tellCond_121 : decode cX12_tellCond 121 = .ok (.aload_n 0, 1) := by decide +kernel
theorem dX12_tellCond_122 : decode cX12_tellCond 122 = .ok (.bipush 32, 2) := by decide +kernel
theorem dX12_tellCond_124 : decode cX12_tellCond 124 = .ok (.invokevirtual 312, 3) := by decide +kernel
theorem dX12_tellCond_127 : decode cX12_tellCond 127 = .ok (.ifCond .eq 7, 3) := by decide +kernel
theorem dX12_tellCond_130 : decode cX12_tellCond 130 = .ok (.iconst 1, 1) := by decide +kernel
theorem dX12_tellCond_131 : decode cX12_tellCond 131 = .ok (.goto 4, 3) := by decide +kernel
theorem dX12_tellCond_134 : decode cX12_tellCond 134 = .ok (.iconst 2, 1) := by decide +kernel
theorem dX12_tellCond_135 : decode cX12_tellCond 135 = .ok (.iastore, 1) := by decide +kernel
theorem dX12_tellCond_136 : decode cX12_tellCond 136 = .ok (.aload_n 0, 1) := by decide +kernel
theorem dX12_tellCond_137 : decode cX12_tellCond 137 = .ok (.invokevirtual 315, 3) := by decide +kernel
theorem dX12_tellCond_140 : decode cX12_tellCond 140 = .ok (.aload_n 0, 1) := by decide +kernel
theorem dX12_tellCond_141 : decode cX12_tellCond 141 = .ok (.getfield 128, 3) := by decide +kernel
theorem dX12_tellCond_144 : decode cX12_tellCond 144 = .ok (.iload_n 2, 1) := by decide +kernel
theorem dX12_tellCond_145 : decode cX12_tellCond 145 = .ok (.aload_n 0, 1) := by decide +kernel
theorem dX12_tellCond_146 : decode cX12_tellCond 146 = .ok (.invokevirtual 390, 3) := by decide +kernel
theorem dX12_tellCond_149 : decode cX12_tellCond 149 = .ok (.iastore, 1) := by decide +kernel
theorem dX12_tellCond_150 : decode cX12_tellCond 150 = .ok (.aload_n 0, 1) := by decide +kernel
theorem dX12_tellCond_151 : decode cX12_tellCond 151 = .ok (.getfield 131, 3) := by decide +kernel
theorem dX12_tellCond_154 : decode cX12_tellCond 154 = .ok (.iload_n 2, 1) := by decide +kernel
theorem dX12_tellCond_155 : decode cX12_tellCond 155 = .ok (.aload_n 0, 1) := by decide +kernel
theorem dX12_tellCond_156 : decode cX12_tellCond 156 = .ok (.getfield 294, 3) := by decide +kernel
theorem dX12_tellCond_159 : decode cX12_tellCond 159 = .ok (.ifCond .le 7, 3) := by decide +kernel
theorem dX12_tellCond_162 : decode cX12_tellCond 162 = .ok (.iconst (-1), 1) := by decide +kernel
theorem dX12_tellCond_163 : decode cX12_tellCond 163 = .ok (.goto 7, 3) := by decide +kernel
theorem dX12_tellCond_166 : decode cX12_tellCond 166 = .ok (.aload_n 0, 1) := by decide +kernel
theorem dX12_tellCond_167 : decode cX12_tellCond 167 = .ok (.invokevirtual 390, 3) := by decide +kernel
theorem dX12_tellCond_170 : decode cX12_tellCond 170 = .ok (.iastore, 1) := by decide +kernel
theorem dX12_tellCond_171 : decode cX12_tellCond 171 = .ok (.goto 185, 3) := by decide +kernel
theorem dX12_tellCond_174 : decode cX12_tellCond 174 = .ok (.aload_n 0, 1) := by decide +kernel
theorem dX12_tellCond_175 : decode cX12_tellCond 175 = .ok (.bipush 34, 2) := by decide +kernel
theorem dX12_tellCond_177 : decode cX12_tellCond 177 = .ok (.invokevirtual 312, 3) := by decide +kernel
theorem dX12_tellCond_180 : decode cX12_tellCond 180 = .ok (.ifCond .eq 125, 3) := by decide +kernel
theorem dX12_tellCond_183 : decode cX12_tellCond 183 = .ok (.aload_n 0, 1) := by decide +kernel
theorem dX12_tellCond_184 : decode cX12_tellCond 184 = .ok (.getfield 119, 3) := by decide +kernel
theorem dX12_tellCond_187 : decode cX12_tellCond 187 = .ok (.iload_n 2, 1) := by decide +kernel
theorem dX12_tellCond_188 : decode cX12_tellCond 188 = .ok (.iconst 3, 1) := by decide +kernel
theorem dX12_tellCond_189 : decode cX12_tellCond 189 = .ok (.iastore, 1) := by decide +kernel
theorem dX12_tellCond_190 : decode cX12_tellCond 190 = .ok (.aload_n 0, 1) := by decide +kernel
theorem dX12_tellCond_191 : decode cX12_tellCond 191 = .ok (.invokevirtual 315, 3) := by decide +kernel
theorem dX12_tellCond_194 : decode cX12_tellCond 194 = .ok (.aload_n 0, 1) := by decide +kernel
theorem dX12_tellCond_195 : decode cX12_tellCond 195 = .ok (.getfield 137, 3) := by decide +kernel
theorem dX12_tellCond_198 : decode cX12_tellCond 198 = .ok (.iload_n 2, 1) := by decide +kernel
theorem dX12_tellCond_199 : decode cX12_tellCond 199 = .ok (.aload_n 0, 1) := by decide +kernel
theorem dX12_tellCond_200 : decode cX12_tellCond 200 = .ok (.getfield 356, 3) := by decide +kernel
theorem dX12_tellCond_203 : decode cX12_tellCond 203 = .ok (.iastore, 1) := by decide +kernel
theorem dX12_tellCond_204 : decode cX12_tellCond 204 = .ok (.aload_n 0, 1) := by decide +kernel
theorem dX12_tellCond_205 : decode cX12_tellCond 205 = .ok (.invokevirtual 394, 3) := by decide +kernel
theorem dX12_tellCond_208 : decode cX12_tellCond 208 = .ok (.aload_n 0, 1) := by decide +kernel
theorem dX12_tellCond_209 : decode cX12_tellCond 209 = .ok (.getfield 140, 3) := by decide +kernel
theorem dX12_tellCond_212 : decode cX12_tellCond 212 = .ok (.iload_n 2, 1) := by decide +kernel
theorem dX12_tellCond_213 : decode cX12_tellCond 213 = .ok (.aload_n 0, 1) := by decide +kernel
theorem dX12_tellCond_214 : decode cX12_tellCond 214 = .ok (.getfield 356, 3) := by decide +kernel
theorem dX12_tellCond_217 : decode cX12_tellCond 217 = .ok (.iastore, 1) := by decide +kernel
theorem dX12_tellCond_218 : decode cX12_tellCond 218 = .ok (.aload_n 0, 1) := by decide +kernel
theorem dX12_tellCond_219 : decode cX12_tellCond 219 = .ok (.getfield 294, 3) := by decide +kernel
theorem dX12_tellCond_222 : decode cX12_tellCond 222 = .ok (.ifCond .ne 36, 3) := by decide +kernel
theorem dX12_tellCond_225 : decode cX12_tellCond 225 = .ok (.aload_n 0, 1) := by decide +kernel
theorem dX12_tellCond_226 : decode cX12_tellCond 226 = .ok (.getfield 20, 3) := by decide +kernel
theorem dX12_tellCond_229 : decode cX12_tellCond 229 = .ok (.aload_n 0, 1) := by decide +kernel
theorem dX12_tellCond_230 : decode cX12_tellCond 230 = .ok (.getfield 297, 3) := by decide +kernel
theorem dX12_tellCond_233 : decode cX12_tellCond 233 = .ok (.iaload, 1) := by decide +kernel
theorem dX12_tellCond_234 : decode cX12_tellCond 234 = .ok (.bipush 16, 2) := by decide +kernel
theorem dX12_tellCond_236 : decode cX12_tellCond 236 = .ok (.if_icmp .lt 17, 3) := by decide +kernel
theorem dX12_tellCond_239 : decode cX12_tellCond 239 = .ok (.aload_n 0, 1) := by decide +kernel
theorem dX12_tellCond_240 : decode cX12_tellCond 240 = .ok (.getfield 20, 3) := by decide +kernel
theorem dX12_tellCond_243 : decode cX12_tellCond 243 = .ok (.aload_n 0, 1) := by decide +kernel
theorem dX12_tellCond_244 : decode cX12_tellCond 244 = .ok (.getfield 297, 3) := by decide +kernel
theorem dX12_tellCond_247 : decode cX12_tellCond 247 = .ok (.iaload, 1) := by decide +kernel
theorem dX12_tellCond_248 : decode cX12_tellCond 248 = .ok (.bipush 19, 2) := by decide +kernel
theorem dX12_tellCond_250 : decode cX12_tellCond 250 = .ok (.if_icmp .le 8, 3) := by decide +kernel
theorem dX12_tellCond_253 : decode cX12_tellCond 253 = .ok (.aload_n 0, 1) := by decide +kernel
theorem dX12_tellCond_254 : decode cX12_tellCond 254 = .ok (.iconst 1, 1) := by decide +kernel
theorem dX12_tellCond_255 : decode cX12_tellCond 255 = .ok (.invokevirtual 309, 3) := by decide +kernel
theorem dX12_tellCond_258 : decode cX12_tellCond 258 = .ok (.aload_n 0, 1) := by decide +kernel
theorem dX12_tellCond_259 : decode cX12_tellCond 259 = .ok (.getfield 134, 3) := by decide +kernel
theorem dX12_tellCond_262 : decode cX12_tellCond 262 = .ok (.iload_n 2, 1) := by decide +kernel
theorem dX12_tellCond_263 : decode cX12_tellCond 263 = .ok (.aload_n 0, 1) := by decide +kernel
theorem dX12_tellCond_264 : decode cX12_tellCond 264 = .ok (.getfield 294, 3) := by decide +kernel
theorem dX12_tellCond_267 : decode cX12_tellCond 267 = .ok (.ifCond .le 7, 3) := by decide +kernel
theorem dX12_tellCond_270 : decode cX12_tellCond 270 = .ok (.iconst 0, 1) := by decide +kernel
theorem dX12_tellCond_271 : decode cX12_tellCond 271 = .ok (.goto 12, 3) := by decide +kernel
theorem dX12_tellCond_274 : decode cX12_tellCond 274 = .ok (.aload_n 0, 1) := by decide +kernel
theorem dX12_tellCond_275 : decode cX12_tellCond 275 = .ok (.getfield 20, 3) := by decide +kernel
theorem dX12_tellCond_278 : decode cX12_tellCond 278 = .ok (.aload_n 0, 1) := by decide +kernel
theorem dX12_tellCond_279 : decode cX12_tellCond 279 = .ok (.getfield 297, 3) := by decide +kernel
theorem dX12_tellCond_282 : decode cX12_tellCond 282 = .ok (.iaload, 1) := by decide +kernel
theorem dX12_tellCond_283 : decode cX12_tellCond 283 = .ok (.iastore, 1) := by decide +kernel
theorem dX12_tellCond_284 : decode cX12_tellCond 284 = .ok (.aload_n 0, 1) := by decide +kernel
theorem dX12_tellCond_285 : decode cX12_tellCond 285 = .ok (.invokevirtual 315, 3) := by decide +kernel
theorem dX12_tellCond_288 : decode cX12_tellCond 288 = .ok (.aload_n 0, 1) := by decide +kernel
theorem dX12_tellCond_289 : decode cX12_tellCond 289 = .ok (.invokevirtual 394, 3) := by decide +kernel
theorem dX12_tellCond_292 : decode cX12_tellCond 292 = .ok (.aload_n 0, 1) := by decide +kernel
theorem dX12_tellCond_293 : decode cX12_tellCond 293 = .ok (.getfield 143, 3) := by decide +kernel
theorem dX12_tellCond_296 : decode cX12_tellCond 296 = .ok (.iload_n 2, 1) := by decide +kernel
theorem dX12_tellCond_297 : decode cX12_tellCond 297 = .ok (.aload_n 0, 1) := by decide +kernel
theorem dX12_tellCond_298 : decode cX12_tellCond 298 = .ok (.getfield 356, 3) := by decide +kernel
theorem dX12_tellCond_301 : decode cX12_tellCond 301 = .ok (.iastore, 1) := by decide +kernel
theorem dX12_tellCond_302 : decode cX12_tellCond 302 = .ok (.goto 54, 3) := by decide +kernel
theorem dX12_tellCond_305 : decode cX12_tellCond 305 = .ok (.aload_n 0, 1) := by decide +kernel
theorem dX12_tellCond_306 : decode cX12_tellCond 306 = .ok (.invokevirtual 397, 3) := by decide +kernel
theorem dX12_tellCond_309 : decode cX12_tellCond 309 = .ok (.aload_n 0, 1) := by decide +kernel
theorem dX12_tellCond_310 : decode cX12_tellCond 310 = .ok (.getfield 119, 3) := by decide +kernel
theorem dX12_tellCond_313 : decode cX12_tellCond 313 = .ok (.iload_n 2, 1) := by decide +kernel
theorem dX12_tellCond_314 : decode cX12_tellCond 314 = .ok (.iconst 0, 1) := by decide +kernel
theorem dX12_tellCond_315 : decode cX12_tellCond 315 = .ok (.iastore, 1) := by decide +kernel
theorem dX12_tellCond_316 : decode cX12_tellCond 316 = .ok (.aload_n 0, 1) := by decide +kernel
theorem dX12_tellCond_317 : decode cX12_tellCond 317 = .ok (.getfield 122, 3) := by decide +kernel
theorem dX12_tellCond_320 : decode cX12_tellCond 320 = .ok (.iload_n 2, 1) := by decide +kernel
theorem dX12_tellCond_321 : decode cX12_tellCond 321 = .ok (.aload_n 0, 1) := by decide +kernel
theorem dX12_tellCond_322 : decode cX12_tellCond 322 = .ok (.getfield 400, 3) := by decide +kernel
theorem dX12_tellCond_325 : decode cX12_tellCond 325 = .ok (.iastore, 1) := by decide +kernel
theorem dX12_tellCond_326 : decode cX12_tellCond 326 = .ok (.aload_n 0, 1) := by decide +kernel
theorem dX12_tellCond_327 : decode cX12_tellCond 327 = .ok (.getfield 125, 3) := by decide +kernel
theorem dX12_tellCond_330 : decode cX12_tellCond 330 = .ok (.iload_n 2, 1) := by decide +kernel
theorem dX12_tellCond_331 : decode cX12_tellCond 331 = .ok (.aload_n 0, 1) := by decide +kernel
theorem dX12_tellCond_332 : decode cX12_tellCond 332 = .ok (.getfield 403, 3) := by decide +kernel
theorem dX12_tellCond_335 : decode cX12_tellCond 335 = .ok (.bastore, 1) := by decide +kernel
theorem dX12_tellCond_336 : decode cX12_tellCond 336 = .ok (.aload_n 0, 1) := by decide +kernel
theorem dX12_tellCond_337 : decode cX12_tellCond 337 = .ok (.getfield 128, 3) := by decide +kernel
theorem dX12_tellCond_340 : decode cX12_tellCond 340 = .ok (.iload_n 2, 1) := by decide +kernel
theorem dX12_tellCond_341 : decode cX12_tellCond 341 = .ok (.aload_n 0, 1) := by decide +kernel
theorem dX12_tellCond_342 : decode cX12_tellCond 342 = .ok (.getfield 407, 3) := by decide +kernel
theorem dX12_tellCond_345 : decode cX12_tellCond 345 = .ok (.iastore, 1) := by decide +kernel
theorem dX12_tellCond_346 : decode cX12_tellCond 346 = .ok (.aload_n 0, 1) := by decide +kernel
theorem dX12_tellCond_347 : decode cX12_tellCond 347 = .ok (.getfield 131, 3) := by decide +kernel
theorem dX12_tellCond_350 : decode cX12_tellCond 350 = .ok (.iload_n 2, 1) := by decide +kernel
theorem dX12_tellCond_351 : decode cX12_tellCond 351 = .ok (.aload_n 0, 1) := by decide +kernel
theorem dX12_tellCond_352 : decode cX12_tellCond 352 = .ok (.getfield 410, 3) := by decide +kernel
theorem dX12_tellCond_355 : decode cX12_tellCond 355 = .ok (.iastore, 1) := by decide +kernel
theorem dX12_tellCond_356 : decode cX12_tellCond 356 = .ok (.aload_n 0, 1) := by decide +kernel
theorem dX12_tellCond_357 : decode cX12_tellCond 357 = .ok (.getfield 88, 3) := by decide +kernel
theorem dX12_tellCond_360 : decode cX12_tellCond 360 = .ok (.aload_n 0, 1) := by decide +kernel
theorem dX12_tellCond_361 : decode cX12_tellCond 361 = .ok (.getfield 384, 3) := by decide +kernel
theorem dX12_tellCond_364 : decode cX12_tellCond 364 = .ok (.dup2, 1) := by decide +kernel
theorem dX12_tellCond_365 : decode cX12_tellCond 365 = .ok (.iaload, 1) := by decide +kernel
theorem dX12_tellCond_366 : decode cX12_tellCond 366 = .ok (.iconst 1, 1) := by decide +kernel
theorem dX12_tellCond_367 : decode cX12_tellCond 367 = .ok (.iadd, 1) := by decide +kernel
theorem dX12_tellCond_368 : decode cX12_tellCond 368 = .ok (.iastore, 1) := by decide +kernel
theorem dX12_tellCond_369 : decode cX12_tellCond 369 = .ok (.return_, 1) := by decide +kernel
def fX12_tellCond_356  (h : MS) : Option (MS) :=
  oC (ix (mI h 65) (mlen 41)) (oC (ix (mI h 65) (mlen 41)) (oL (mSA h 41 (Int32.toNatClampNeg (mI h 65)) ((mA h 41 (Int32.toNatClampNeg (mI h 65))) + 1)) (fun h3 => some (h3))))
set_option maxHeartbeats 4000000 in
theorem wfX12_tellCond_356 {args : Array Value} (b : Bd p s m c cX12_tellCond 3 RX12 D aC) (hlk : meth.locks = false) (hr : meth.sig.returnType = none) {Z : State → Prop} (zs : Z s) (zk : ZOK Z (Rg ad)) {hz : MS} {h : MS}  {H : Heap} {locs : List Loc} {ls : Array Slot} (hf : fX12_tellCond_356 h = some hz) (hE : CE (EM D aC ad h) (Rg ad) s H locs) (hl : lv_has ls 3 [(0, .ref (ad 116))]) : W p l e (RM 6 130 0 0) s m args below meth c H locs 0 0 (MQ below (PQ (EM D aC ad hz) (Rg ad) none) args s 0 0 (Rg ad)) (F0 m 356 ls []) := by
  unfold fX12_tellCond_356 at hf
  refine lv_aload_n b.1 b.2.1 dX12_tellCond_356 rfl (lv_at hl 0 rfl) ?_
  refine gM_88 b hE dX12_tellCond_357 ?_
  refine lv_aload_n b.1 b.2.1 dX12_tellCond_360 rfl (lv_at hl 0 rfl) ?_
  refine gM_384 b hE dX12_tellCond_361 ?_
  refine lv_dup2_11 b.1 b.2.1 dX12_tellCond_364 rfl rfl ?_
  obtain ⟨g1, hf⟩ := oC_s hf
  refine m_iald b hE rfl rfl g1 dX12_tellCond_365 ?_
  refine lv_iconst (v := 1) b.1 b.2.1 dX12_tellCond_366 (by decide) ?_
  refine lv_iadd b.1 b.2.1 dX12_tellCond_367 ?_
  obtain ⟨g2, hf⟩ := oC_s hf
  obtain ⟨h3, eh3, hf⟩ := oL_s hf
  refine n_iast b hE rfl rfl g2 eh3 dX12_tellCond_368 (fun H locs hE => ?_)
  cases hf
  exact k_vret b hlk hr hE (Nat.le_refl _) (Nat.le_refl _) dX12_tellCond_369
def fX12_tellCond_170  (h : MS) (s0 : Int32) (s1 : Int32) : Option (MS) :=
  oC (ix s1 (mlen 55)) (oL (mSA h 55 (Int32.toNatClampNeg s1) s0) (fun h5 => fX12_tellCond_356  h5))
set_option maxHeartbeats 4000000 in
theorem wfX12_tellCond_170 {args : Array Value} (b : Bd p s m c cX12_tellCond 3 RX12 D aC) (hlk : meth.locks = false) (hr : meth.sig.returnType = none) {Z : State → Prop} (zs : Z s) (zk : ZOK Z (Rg ad)) {hz : MS} {h : MS} {s0 : Int32} {s1 : Int32}  {H : Heap} {locs : List Loc} {ls : Array Slot} (hf : fX12_tellCond_170 h s0 s1 = some hz) (hE : CE (EM D aC ad h) (Rg ad) s H locs) (hl : lv_has ls 3 [(0, .ref (ad 116))]) : W p l e (RM 6 130 0 0) s m args below meth c H locs 0 0 (MQ below (PQ (EM D aC ad hz) (Rg ad) none) args s 0 0 (Rg ad)) (F0 m 170 ls [.int s0, .int s1, .ref (ad 55)]) := by
  unfold fX12_tellCond_170 at hf
  obtain ⟨g4, hf⟩ := oC_s hf
  obtain ⟨h5, eh5, hf⟩ := oL_s hf
  refine n_iast b hE rfl rfl g4 eh5 dX12_tellCond_170 (fun H locs hE => ?_)
  refine lv_goto (tgt := 356) b.1 b.2.1 dX12_tellCond_171 (by decide) ?_
  exact wfX12_tellCond_356 b hlk hr zs zk  hf hE (lv_sub hl [0] rfl)
def fX12_tellCond_135  (h : MS) (x2 : Int32) (s0 : Int32) (s1 : Int32) : Option (MS) :=
  oC (ix s1 (mlen 51)) (oL (mSA h 51 (Int32.toNatClampNeg s1) s0) (fun h7 => oB (fX12_next h7 ) (fun h9 => oB2 (fX12_term h9 ) (fun h12 r11 => oC (ix x2 (mlen 54)) (oL (mSA h12 54 (Int32.toNatClampNeg x2) r11) (fun h14 => if (mI h14 13) ≤ 0 then (oB2 (fX12_term h14 ) (fun h18 r17 => fX12_tellCond_170  h18 r17 x2)) else (fX12_tellCond_170  h14 (-1) x2)))))))
set_option maxHeartbeats 4000000 in
theorem wfX12_tellCond_135 {args : Array Value} (b : Bd p s m c cX12_tellCond 3 RX12 D aC) (hlk : meth.locks = false) (hr : meth.sig.returnType = none) {Z : State → Prop} (zs : Z s) (zk : ZOK Z (Rg ad)) {hz : MS} {h : MS} {x2 : Int32} {s0 : Int32} {s1 : Int32}  {H : Heap} {locs : List Loc} {ls : Array Slot} (hf : fX12_tellCond_135 h x2 s0 s1 = some hz) (hE : CE (EM D aC ad h) (Rg ad) s H locs) (hl : lv_has ls 3 [(0, .ref (ad 116)), (2, .int x2)]) : W p l e (RM 6 130 0 0) s m args below meth c H locs 0 0 (MQ below (PQ (EM D aC ad hz) (Rg ad) none) args s 0 0 (Rg ad)) (F0 m 135 ls [.int s0, .int s1, .ref (ad 51)]) := by
  unfold fX12_tellCond_135 at hf
  obtain ⟨g6, hf⟩ := oC_s hf
  obtain ⟨h7, eh7, hf⟩ := oL_s hf
  refine n_iast b hE rfl rfl g6 eh7 dX12_tellCond_135 (fun H locs hE => ?_)
  refine lv_aload_n b.1 b.2.1 dX12_tellCond_136 rfl (lv_at hl 0 rfl) ?_
  obtain ⟨h9, hc8, hf⟩ := oB_s hf
  refine k_callV0 (C := RX12) b zs zk hE (CX12_next l D aC ad zk hc8) mc_X12_next (in7 117 rfl rfl) mi_X12_next ms_X12_next ini_RX12 ok_X12_next (m_recv b hE) ⟨Nat.le_of_ble_eq_true rfl, Nat.le_of_ble_eq_true rfl⟩ rfl hl.1 rfl (k_room _ (by exact Nat.le_of_ble_eq_true rfl)) ⟨Nat.le_refl _, Nat.le_refl _⟩ dX12_tellCond_137 (fun H locs hE => ?_)
  refine lv_aload_n b.1 b.2.1 dX12_tellCond_140 rfl (lv_at hl 0 rfl) ?_
  refine gM_128 b hE dX12_tellCond_141 ?_
  refine lv_iload_n b.1 b.2.1 dX12_tellCond_144 rfl (lv_at hl 1 rfl) ?_
  refine lv_aload_n b.1 b.2.1 dX12_tellCond_145 rfl (lv_at hl 0 rfl) ?_
  obtain ⟨h12, r11, hc10, hf⟩ := oB2_s hf
  refine k_callV0 (C := RX12) b zs zk hE (CX12_term l D aC ad zk hc10) mc_X12_term (in7 157 rfl rfl) mi_X12_term ms_X12_term ini_RX12 ok_X12_term (m_recv b hE) ⟨Nat.le_of_ble_eq_true rfl, Nat.le_of_ble_eq_true rfl⟩ rfl hl.1 rfl (k_room _ (by exact Nat.le_of_ble_eq_true rfl)) ⟨Nat.le_refl _, Nat.le_refl _⟩ dX12_tellCond_146 (fun H locs hE => ?_)
  obtain ⟨g13, hf⟩ := oC_s hf
  obtain ⟨h14, eh14, hf⟩ := oL_s hf
  refine n_iast b hE rfl rfl g13 eh14 dX12_tellCond_149 (fun H locs hE => ?_)
  refine lv_aload_n b.1 b.2.1 dX12_tellCond_150 rfl (lv_at hl 0 rfl) ?_
  refine gM_131 b hE dX12_tellCond_151 ?_
  refine lv_iload_n b.1 b.2.1 dX12_tellCond_154 rfl (lv_at hl 1 rfl) ?_
  refine lv_aload_n b.1 b.2.1 dX12_tellCond_155 rfl (lv_at hl 0 rfl) ?_
  refine gM_294 b hE dX12_tellCond_156 ?_
  refine lv_if_le (tgt := 166) b.1 b.2.1 dX12_tellCond_159 (by decide) (fun c15 => ?_) (fun c15 => ?_)
  · have hf := oI_t c15 hf
    refine lv_aload_n b.1 b.2.1 dX12_tellCond_166 rfl (lv_at hl 0 rfl) ?_
    obtain ⟨h18, r17, hc16, hf⟩ := oB2_s hf
    refine k_callV0 (C := RX12) b zs zk hE (CX12_term l D aC ad zk hc16) mc_X12_term (in7 157 rfl rfl) mi_X12_term ms_X12_term ini_RX12 ok_X12_term (m_recv b hE) ⟨Nat.le_of_ble_eq_true rfl, Nat.le_of_ble_eq_true rfl⟩ rfl hl.1 rfl (k_room _ (by exact Nat.le_of_ble_eq_true rfl)) ⟨Nat.le_refl _, Nat.le_refl _⟩ dX12_tellCond_167 (fun H locs hE => ?_)
    exact wfX12_tellCond_170 b hlk hr zs zk  hf hE (lv_sub hl [0] rfl)
  · have hf := oI_f c15 hf
    refine lv_iconst (v := (-1)) b.1 b.2.1 dX12_tellCond_162 (by decide) ?_
    refine lv_goto (tgt := 170) b.1 b.2.1 dX12_tellCond_163 (by decide) ?_
    exact wfX12_tellCond_170 b hlk hr zs zk  hf hE (lv_sub hl [0] rfl)
def fX12_tellCond_116  (h : MS) (x2 : Int32) : Option (MS) :=
  oB (fX12_is h 32) (fun r20 => if r20 = 0 then (fX12_tellCond_135  h x2 2 x2) else (fX12_tellCond_135  h x2 1 x2))
set_option maxHeartbeats 4000000 in
theorem wfX12_tellCond_116 {args : Array Value} (b : Bd p s m c cX12_tellCond 3 RX12 D aC) (hlk : meth.locks = false) (hr : meth.sig.returnType = none) {Z : State → Prop} (zs : Z s) (zk : ZOK Z (Rg ad)) {hz : MS} {h : MS} {x2 : Int32}  {H : Heap} {locs : List Loc} {ls : Array Slot} (hf : fX12_tellCond_116 h x2 = some hz) (hE : CE (EM D aC ad h) (Rg ad) s H locs) (hl : lv_has ls 3 [(0, .ref (ad 116)), (2, .int x2)]) : W p l e (RM 6 130 0 0) s m args below meth c H locs 0 0 (MQ below (PQ (EM D aC ad hz) (Rg ad) none) args s 0 0 (Rg ad)) (F0 m 116 ls []) := by
  unfold fX12_tellCond_116 at hf
  refine lv_aload_n b.1 b.2.1 dX12_tellCond_116 rfl (lv_at hl 0 rfl) ?_
  refine gM_119 b hE dX12_tellCond_117 ?_
  refine lv_iload_n b.1 b.2.1 dX12_tellCond_120 rfl (lv_at hl 1 rfl) ?_
  refine lv_aload_n b.1 b.2.1 dX12_tellCond_121 rfl (lv_at hl 0 rfl) ?_
  refine lv_bipush (v := 32) b.1 b.2.1 dX12_tellCond_122 (by decide) ?_
  obtain ⟨r20, hc19, hf⟩ := oB_s hf
  refine k_callV0 (C := RX12) b zs zk hE (CX12_is l D aC ad zk hc19) mc_X12_is (in7 109 rfl rfl) mi_X12_is ms_X12_is ini_RX12 ok_X12_is (m_recv b hE) ⟨Nat.le_of_ble_eq_true rfl, Nat.le_of_ble_eq_true rfl⟩ rfl hl.1 rfl (k_room _ (by exact Nat.le_of_ble_eq_true rfl)) ⟨Nat.le_refl _, Nat.le_refl _⟩ dX12_tellCond_124 (fun H locs hE => ?_)
  refine lv_if_eq (tgt := 134) b.1 b.2.1 dX12_tellCond_127 (by decide) (fun c21 => ?_) (fun c21 => ?_)
  · have hf := oI_t c21 hf
    refine lv_iconst (v := 2) b.1 b.2.1 dX12_tellCond_134 (by decide) ?_
    exact wfX12_tellCond_135 b hlk hr zs zk  hf hE (lv_sub hl [0, 1] rfl)
  · have hf := oI_f c21 hf
    refine lv_iconst (v := 1) b.1 b.2.1 dX12_tellCond_130 (by decide) ?_
    refine lv_goto (tgt := 135) b.1 b.2.1 dX12_tellCond_131 (by decide) ?_
    exact wfX12_tellCond_135 b hlk hr zs zk  hf hE (lv_sub hl [0, 1] rfl)
def fX12_tellCond_283  (h : MS) (x2 : Int32) (s0 : Int32) (s1 : Int32) : Option (MS) :=
  oC (ix s1 (mlen 56)) (oL (mSA h 56 (Int32.toNatClampNeg s1) s0) (fun h23 => oB (fX12_next h23 ) (fun h25 => oB (fX12_expression h25 ) (fun h27 => oC (ix x2 (mlen 59)) (oL (mSA h27 59 (Int32.toNatClampNeg x2) (mI h27 24)) (fun h29 => fX12_tellCond_356  h29))))))
set_option maxHeartbeats 4000000 in
theorem wfX12_tellCond_283 {args : Array Value} (b : Bd p s m c cX12_tellCond 3 RX12 D aC) (hlk : meth.locks = false) (hr : meth.sig.returnType = none) {Z : State → Prop} (zs : Z s) (zk : ZOK Z (Rg ad)) {hz : MS} {h : MS} {x2 : Int32} {s0 : Int32} {s1 : Int32}  {H : Heap} {locs : List Loc} {ls : Array Slot} (hf : fX12_tellCond_283 h x2 s0 s1 = some hz) (hE : CE (EM D aC ad h) (Rg ad) s H locs) (hl : lv_has ls 3 [(0, .ref (ad 116)), (2, .int x2)]) : W p l e (RM 6 130 0 0) s m args below meth c H locs 0 0 (MQ below (PQ (EM D aC ad hz) (Rg ad) none) args s 0 0 (Rg ad)) (F0 m 283 ls [.int s0, .int s1, .ref (ad 56)]) := by
  unfold fX12_tellCond_283 at hf
  obtain ⟨g22, hf⟩ := oC_s hf
  obtain ⟨h23, eh23, hf⟩ := oL_s hf
  refine n_iast b hE rfl rfl g22 eh23 dX12_tellCond_283 (fun H locs hE => ?_)
  refine lv_aload_n b.1 b.2.1 dX12_tellCond_284 rfl (lv_at hl 0 rfl) ?_
  obtain ⟨h25, hc24, hf⟩ := oB_s hf
  refine k_callV0 (C := RX12) b zs zk hE (CX12_next l D aC ad zk hc24) mc_X12_next (in7 117 rfl rfl) mi_X12_next ms_X12_next ini_RX12 ok_X12_next (m_recv b hE) ⟨Nat.le_of_ble_eq_true rfl, Nat.le_of_ble_eq_true rfl⟩ rfl hl.1 rfl (k_room _ (by exact Nat.le_of_ble_eq_true rfl)) ⟨Nat.le_refl _, Nat.le_refl _⟩ dX12_tellCond_285 (fun H locs hE => ?_)
  refine lv_aload_n b.1 b.2.1 dX12_tellCond_288 rfl (lv_at hl 0 rfl) ?_
  obtain ⟨h27, hc26, hf⟩ := oB_s hf
  refine k_callV0 (C := RX12) b zs zk hE (CX12_expression l D aC ad zk hc26) mc_X12_expression (in7 169 rfl rfl) mi_X12_expression ms_X12_expression ini_RX12 ok_X12_expression (m_recv b hE) ⟨Nat.le_of_ble_eq_true rfl, Nat.le_of_ble_eq_true rfl⟩ rfl hl.1 rfl (k_room _ (by exact Nat.le_of_ble_eq_true rfl)) ⟨Nat.le_refl _, Nat.le_refl _⟩ dX12_tellCond_289 (fun H locs hE => ?_)
  refine lv_aload_n b.1 b.2.1 dX12_tellCond_292 rfl (lv_at hl 0 rfl) ?_
  refine gM_143 b hE dX12_tellCond_293 ?_
  refine lv_iload_n b.1 b.2.1 dX12_tellCond_296 rfl (lv_at hl 1 rfl) ?_
  refine lv_aload_n b.1 b.2.1 dX12_tellCond_297 rfl (lv_at hl 0 rfl) ?_
  refine gM_356 b hE dX12_tellCond_298 ?_
  obtain ⟨g28, hf⟩ := oC_s hf
  obtain ⟨h29, eh29, hf⟩ := oL_s hf
  refine n_iast b hE rfl rfl g28 eh29 dX12_tellCond_301 (fun H locs hE => ?_)
  refine lv_goto (tgt := 356) b.1 b.2.1 dX12_tellCond_302 (by decide) ?_
  exact wfX12_tellCond_356 b hlk hr zs zk  hf hE (lv_sub hl [0] rfl)
def fX12_tellCond_258  (h : MS) (x2 : Int32) : Option (MS) :=
  if (mI h 13) ≤ 0 then (oC (ix (mI h 11) (mlen 5)) (fX12_tellCond_283  h x2 (mA h 5 (Int32.toNatClampNeg (mI h 11))) x2)) else (fX12_tellCond_283  h x2 0 x2)
set_option maxHeartbeats 4000000 in
theorem wfX12_tellCond_258 {args : Array Value} (b : Bd p s m c cX12_tellCond 3 RX12 D aC) (hlk : meth.locks = false) (hr : meth.sig.returnType = none) {Z : State → Prop} (zs : Z s) (zk : ZOK Z (Rg ad)) {hz : MS} {h : MS} {x2 : Int32}  {H : Heap} {locs : List Loc} {ls : Array Slot} (hf : fX12_tellCond_258 h x2 = some hz) (hE : CE (EM D aC ad h) (Rg ad) s H locs) (hl : lv_has ls 3 [(0, .ref (ad 116)), (2, .int x2)]) : W p l e (RM 6 130 0 0) s m args below meth c H locs 0 0 (MQ below (PQ (EM D aC ad hz) (Rg ad) none) args s 0 0 (Rg ad)) (F0 m 258 ls []) := by
  unfold fX12_tellCond_258 at hf
  refine lv_aload_n b.1 b.2.1 dX12_tellCond_258 rfl (lv_at hl 0 rfl) ?_
  refine gM_134 b hE dX12_tellCond_259 ?_
  refine lv_iload_n b.1 b.2.1 dX12_tellCond_262 rfl (lv_at hl 1 rfl) ?_
  refine lv_aload_n b.1 b.2.1 dX12_tellCond_263 rfl (lv_at hl 0 rfl) ?_
  refine gM_294 b hE dX12_tellCond_264 ?_
  refine lv_if_le (tgt := 274) b.1 b.2.1 dX12_tellCond_267 (by decide) (fun c30 => ?_) (fun c30 => ?_)
  · have hf := oI_t c30 hf
    refine lv_aload_n b.1 b.2.1 dX12_tellCond_274 rfl (lv_at hl 0 rfl) ?_
    refine gM_20 b hE dX12_tellCond_275 ?_
    refine lv_aload_n b.1 b.2.1 dX12_tellCond_278 rfl (lv_at hl 0 rfl) ?_
    refine gM_297 b hE dX12_tellCond_279 ?_
    obtain ⟨g31, hf⟩ := oC_s hf
    refine m_iald b hE rfl rfl g31 dX12_tellCond_282 ?_
    exact wfX12_tellCond_283 b hlk hr zs zk  hf hE (lv_sub hl [0, 1] rfl)
  · have hf := oI_f c30 hf
    refine lv_iconst (v := 0) b.1 b.2.1 dX12_tellCond_270 (by decide) ?_
    refine lv_goto (tgt := 283) b.1 b.2.1 dX12_tellCond_271 (by decide) ?_
    exact wfX12_tellCond_283 b hlk hr zs zk  hf hE (lv_sub hl [0, 1] rfl)
def fX12_tellCond_253  (h : MS) (x2 : Int32) : Option (MS) :=
  oB (fX12_fail h 1) (fun h33 => fX12_tellCond_258  h33 x2)
set_option maxHeartbeats 4000000 in
theorem wfX12_tellCond_253 {args : Array Value} (b : Bd p s m c cX12_tellCond 3 RX12 D aC) (hlk : meth.locks = false) (hr : meth.sig.returnType = none) {Z : State → Prop} (zs : Z s) (zk : ZOK Z (Rg ad)) {hz : MS} {h : MS} {x2 : Int32}  {H : Heap} {locs : List Loc} {ls : Array Slot} (hf : fX12_tellCond_253 h x2 = some hz) (hE : CE (EM D aC ad h) (Rg ad) s H locs) (hl : lv_has ls 3 [(0, .ref (ad 116)), (2, .int x2)]) : W p l e (RM 6 130 0 0) s m args below meth c H locs 0 0 (MQ below (PQ (EM D aC ad hz) (Rg ad) none) args s 0 0 (Rg ad)) (F0 m 253 ls []) := by
  unfold fX12_tellCond_253 at hf
  refine lv_aload_n b.1 b.2.1 dX12_tellCond_253 rfl (lv_at hl 0 rfl) ?_
  refine lv_iconst (v := 1) b.1 b.2.1 dX12_tellCond_254 (by decide) ?_
  obtain ⟨h33, hc32, hf⟩ := oB_s hf
  refine k_callV0 (C := RX12) b zs zk hE (CX12_fail l D aC ad zk hc32) mc_X12_fail (in7 121 rfl rfl) mi_X12_fail ms_X12_fail ini_RX12 ok_X12_fail (m_recv b hE) ⟨Nat.le_of_ble_eq_true rfl, Nat.le_of_ble_eq_true rfl⟩ rfl hl.1 rfl (k_room _ (by exact Nat.le_of_ble_eq_true rfl)) ⟨Nat.le_refl _, Nat.le_refl _⟩ dX12_tellCond_255 (fun H locs hE => ?_)
  exact wfX12_tellCond_258 b hlk hr zs zk  hf hE (lv_sub hl [0, 1] rfl)
def fX12_tellCond_49  (h : MS) (s0 : Int32) : Option (MS) :=
  if s0 = 0 then (oB (fX12_fail h 1) (fun h79 => some (h79))) else (oC (ix (mI h 65) (mlen 41)) (if (mA h 41 (Int32.toNatClampNeg (mI h 65))) = 6 then (oB (fX12_fail h 2) (fun h77 => some (h77))) else (oC (ix (mI h 65) (mlen 41)) (oL ((6 * (mI h 65)) + (mA h 41 (Int32.toNatClampNeg (mI h 65)))) (fun y38 => oB (fX12_is h 32) (fun r40 => if r40 = 0 then (oB (fX12_is h 33) (fun r43 => if r43 = 0 then (oB (fX12_is h 34) (fun r46 => if r46 = 0 then (oB (fX12_literal h ) (fun h49 => oC (ix y38 (mlen 51)) (oL (mSA h49 51 (Int32.toNatClampNeg y38) 0) (fun h51 => oC (ix y38 (mlen 52)) (oL (mSA h51 52 (Int32.toNatClampNeg y38) (mI h51 66)) (fun h53 => oC (isB (mI h53 67)) (oC (ix y38 (mlen 53)) (oL (mSA h53 53 (Int32.toNatClampNeg y38) (mI h53 67)) (fun h56 => oC (ix y38 (mlen 54)) (oL (mSA h56 54 (Int32.toNatClampNeg y38) (mI h56 68)) (fun h58 => oC (ix y38 (mlen 55)) (oL (mSA h58 55 (Int32.toNatClampNeg y38) (mI h58 69)) (fun h60 => fX12_tellCond_356  h60))))))))))))) else (oC (ix y38 (mlen 51)) (oL (mSA h 51 (Int32.toNatClampNeg y38) 3) (fun h62 => oB (fX12_next h62 ) (fun h64 => oC (ix y38 (mlen 57)) (oL (mSA h64 57 (Int32.toNatClampNeg y38) (mI h64 24)) (fun h66 => oB (fX12_expression h66 ) (fun h68 => oC (ix y38 (mlen 58)) (oL (mSA h68 58 (Int32.toNatClampNeg y38) (mI h68 24)) (fun h70 => if (mI h70 13) = 0 then (oC (ix (mI h70 11) (mlen 5)) (if (mA h70 5 (Int32.toNatClampNeg (mI h70 11))) < 16 then (fX12_tellCond_253  h70 y38) else (oC (ix (mI h70 11) (mlen 5)) (if (mA h70 5 (Int32.toNatClampNeg (mI h70 11))) ≤ 19 then (fX12_tellCond_258  h70 y38) else (fX12_tellCond_253  h70 y38))))) else (fX12_tellCond_258  h70 y38)))))))))))) else (fX12_tellCond_116  h y38))) else (fX12_tellCond_116  h y38)))))))
set_option maxHeartbeats 4000000 in
theorem wfX12_tellCond_49 {args : Array Value} (b : Bd p s m c cX12_tellCond 3 RX12 D aC) (hlk : meth.locks = false) (hr : meth.sig.returnType = none) {Z : State → Prop} (zs : Z s) (zk : ZOK Z (Rg ad)) {hz : MS} {h : MS} {s0 : Int32}  {H : Heap} {locs : List Loc} {ls : Array Slot} (hf : fX12_tellCond_49 h s0 = some hz) (hE : CE (EM D aC ad h) (Rg ad) s H locs) (hl : lv_has ls 3 [(0, .ref (ad 116))]) : W p l e (RM 6 130 0 0) s m args below meth c H locs 0 0 (MQ below (PQ (EM D aC ad hz) (Rg ad) none) args s 0 0 (Rg ad)) (F0 m 49 ls [.int s0]) := by
  unfold fX12_tellCond_49 at hf
  refine lv_istore_n (lv' := [(1, .int s0), (0, .ref (ad 116))]) b.1 b.2.1 dX12_tellCond_49 rfl hl (by decide) rfl (fun ls hl => ?_)
  refine lv_iload_n b.1 b.2.1 dX12_tellCond_50 rfl (lv_at hl 0 rfl) ?_
  refine lv_if_ne (tgt := 60) b.1 b.2.1 dX12_tellCond_51 (by decide) (fun c34 => ?_) (fun c34 => ?_)
  · have hf := oI_f c34 hf
    refine lv_aload_n b.1 b.2.1 dX12_tellCond_60 rfl (lv_at hl 1 rfl) ?_
    refine gM_88 b hE dX12_tellCond_61 ?_
    refine lv_aload_n b.1 b.2.1 dX12_tellCond_64 rfl (lv_at hl 1 rfl) ?_
    refine gM_384 b hE dX12_tellCond_65 ?_
    obtain ⟨g35, hf⟩ := oC_s hf
    refine m_iald b hE rfl rfl g35 dX12_tellCond_68 ?_
    refine lv_bipush (v := 6) b.1 b.2.1 dX12_tellCond_69 (by decide) ?_
    refine lv_icmp_ne (tgt := 80) b.1 b.2.1 dX12_tellCond_71 (by decide) (fun c36 => ?_) (fun c36 => ?_)
    · have hf := oI_f c36 hf
      refine lv_bipush (v := 6) b.1 b.2.1 dX12_tellCond_80 (by decide) ?_
      refine lv_aload_n b.1 b.2.1 dX12_tellCond_82 rfl (lv_at hl 1 rfl) ?_
      refine gM_384 b hE dX12_tellCond_83 ?_
      refine lv_imul b.1 b.2.1 dX12_tellCond_86 ?_
      refine lv_aload_n b.1 b.2.1 dX12_tellCond_87 rfl (lv_at hl 1 rfl) ?_
      refine gM_88 b hE dX12_tellCond_88 ?_
      refine lv_aload_n b.1 b.2.1 dX12_tellCond_91 rfl (lv_at hl 1 rfl) ?_
      refine gM_384 b hE dX12_tellCond_92 ?_
      obtain ⟨g37, hf⟩ := oC_s hf
      refine m_iald b hE rfl rfl g37 dX12_tellCond_95 ?_
      refine lv_iadd b.1 b.2.1 dX12_tellCond_96 ?_
      obtain ⟨y38, ey38, hf⟩ := oL_s hf
      refine k_nmI ey38 ?_
      refine lv_istore_n (lv' := [(2, .int y38), (1, .int s0), (0, .ref (ad 116))]) b.1 b.2.1 dX12_tellCond_97 rfl hl (by decide) rfl (fun ls hl => ?_)
      have hl := lv_sub (l' := [(2, .int y38), (0, .ref (ad 116))]) hl [0, 2] rfl
      refine lv_aload_n b.1 b.2.1 dX12_tellCond_98 rfl (lv_at hl 1 rfl) ?_
      refine lv_bipush (v := 32) b.1 b.2.1 dX12_tellCond_99 (by decide) ?_
      obtain ⟨r40, hc39, hf⟩ := oB_s hf
      refine k_callV0 (C := RX12) b zs zk hE (CX12_is l D aC ad zk hc39) mc_X12_is (in7 109 rfl rfl) mi_X12_is ms_X12_is ini_RX12 ok_X12_is (m_recv b hE) ⟨Nat.le_of_ble_eq_true rfl, Nat.le_of_ble_eq_true rfl⟩ rfl hl.1 rfl (k_room _ (by exact Nat.le_of_ble_eq_true rfl)) ⟨Nat.le_refl _, Nat.le_refl _⟩ dX12_tellCond_101 (fun H locs hE => ?_)
      refine lv_if_ne (tgt := 116) b.1 b.2.1 dX12_tellCond_104 (by decide) (fun c41 => ?_) (fun c41 => ?_)
      · have hf := oI_f c41 hf
        exact wfX12_tellCond_116 b hlk hr zs zk  hf hE (lv_sub hl [1, 0] rfl)
      · have hf := oI_t c41 hf
        refine lv_aload_n b.1 b.2.1 dX12_tellCond_107 rfl (lv_at hl 1 rfl) ?_
        refine lv_bipush (v := 33) b.1 b.2.1 dX12_tellCond_108 (by decide) ?_
        obtain ⟨r43, hc42, hf⟩ := oB_s hf
        refine k_callV0 (C := RX12) b zs zk hE (CX12_is l D aC ad zk hc42) mc_X12_is (in7 109 rfl rfl) mi_X12_is ms_X12_is ini_RX12 ok_X12_is (m_recv b hE) ⟨Nat.le_of_ble_eq_true rfl, Nat.le_of_ble_eq_true rfl⟩ rfl hl.1 rfl (k_room _ (by exact Nat.le_of_ble_eq_true rfl)) ⟨Nat.le_refl _, Nat.le_refl _⟩ dX12_tellCond_110 (fun H locs hE => ?_)
        refine lv_if_eq (tgt := 174) b.1 b.2.1 dX12_tellCond_113 (by decide) (fun c44 => ?_) (fun c44 => ?_)
        · have hf := oI_t c44 hf
          refine lv_aload_n b.1 b.2.1 dX12_tellCond_174 rfl (lv_at hl 1 rfl) ?_
          refine lv_bipush (v := 34) b.1 b.2.1 dX12_tellCond_175 (by decide) ?_
          obtain ⟨r46, hc45, hf⟩ := oB_s hf
          refine k_callV0 (C := RX12) b zs zk hE (CX12_is l D aC ad zk hc45) mc_X12_is (in7 109 rfl rfl) mi_X12_is ms_X12_is ini_RX12 ok_X12_is (m_recv b hE) ⟨Nat.le_of_ble_eq_true rfl, Nat.le_of_ble_eq_true rfl⟩ rfl hl.1 rfl (k_room _ (by exact Nat.le_of_ble_eq_true rfl)) ⟨Nat.le_refl _, Nat.le_refl _⟩ dX12_tellCond_177 (fun H locs hE => ?_)
          refine lv_if_eq (tgt := 305) b.1 b.2.1 dX12_tellCond_180 (by decide) (fun c47 => ?_) (fun c47 => ?_)
          · have hf := oI_t c47 hf
            refine lv_aload_n b.1 b.2.1 dX12_tellCond_305 rfl (lv_at hl 1 rfl) ?_
            obtain ⟨h49, hc48, hf⟩ := oB_s hf
            refine k_callV0 (C := RX12) b zs zk hE (CX12_literal l D aC ad zk hc48) mc_X12_literal (in7 192 rfl rfl) mi_X12_literal ms_X12_literal ini_RX12 ok_X12_literal (m_recv b hE) ⟨Nat.le_of_ble_eq_true rfl, Nat.le_of_ble_eq_true rfl⟩ rfl hl.1 rfl (k_room _ (by exact Nat.le_of_ble_eq_true rfl)) ⟨Nat.le_refl _, Nat.le_refl _⟩ dX12_tellCond_306 (fun H locs hE => ?_)
            refine lv_aload_n b.1 b.2.1 dX12_tellCond_309 rfl (lv_at hl 1 rfl) ?_
            refine gM_119 b hE dX12_tellCond_310 ?_
            refine lv_iload_n b.1 b.2.1 dX12_tellCond_313 rfl (lv_at hl 0 rfl) ?_
            refine lv_iconst (v := 0) b.1 b.2.1 dX12_tellCond_314 (by decide) ?_
            obtain ⟨g50, hf⟩ := oC_s hf
            obtain ⟨h51, eh51, hf⟩ := oL_s hf
            refine n_iast b hE rfl rfl g50 eh51 dX12_tellCond_315 (fun H locs hE => ?_)
            refine lv_aload_n b.1 b.2.1 dX12_tellCond_316 rfl (lv_at hl 1 rfl) ?_
            refine gM_122 b hE dX12_tellCond_317 ?_
            refine lv_iload_n b.1 b.2.1 dX12_tellCond_320 rfl (lv_at hl 0 rfl) ?_
            refine lv_aload_n b.1 b.2.1 dX12_tellCond_321 rfl (lv_at hl 1 rfl) ?_
            refine gM_400 b hE dX12_tellCond_322 ?_
            obtain ⟨g52, hf⟩ := oC_s hf
            obtain ⟨h53, eh53, hf⟩ := oL_s hf
            refine n_iast b hE rfl rfl g52 eh53 dX12_tellCond_325 (fun H locs hE => ?_)
            refine lv_aload_n b.1 b.2.1 dX12_tellCond_326 rfl (lv_at hl 1 rfl) ?_
            refine gM_125 b hE dX12_tellCond_327 ?_
            refine lv_iload_n b.1 b.2.1 dX12_tellCond_330 rfl (lv_at hl 0 rfl) ?_
            refine lv_aload_n b.1 b.2.1 dX12_tellCond_331 rfl (lv_at hl 1 rfl) ?_
            refine gM_403 b hE dX12_tellCond_332 ?_
            obtain ⟨g54, hf⟩ := oC_s hf
            obtain ⟨g55, hf⟩ := oC_s hf
            obtain ⟨h56, eh56, hf⟩ := oL_s hf
            refine n_zast b hE g54 rfl rfl g55 eh56 dX12_tellCond_335 (fun H locs hE => ?_)
            refine lv_aload_n b.1 b.2.1 dX12_tellCond_336 rfl (lv_at hl 1 rfl) ?_
            refine gM_128 b hE dX12_tellCond_337 ?_
            refine lv_iload_n b.1 b.2.1 dX12_tellCond_340 rfl (lv_at hl 0 rfl) ?_
            refine lv_aload_n b.1 b.2.1 dX12_tellCond_341 rfl (lv_at hl 1 rfl) ?_
            refine gM_407 b hE dX12_tellCond_342 ?_
            obtain ⟨g57, hf⟩ := oC_s hf
            obtain ⟨h58, eh58, hf⟩ := oL_s hf
            refine n_iast b hE rfl rfl g57 eh58 dX12_tellCond_345 (fun H locs hE => ?_)
            refine lv_aload_n b.1 b.2.1 dX12_tellCond_346 rfl (lv_at hl 1 rfl) ?_
            refine gM_131 b hE dX12_tellCond_347 ?_
            refine lv_iload_n b.1 b.2.1 dX12_tellCond_350 rfl (lv_at hl 0 rfl) ?_
            refine lv_aload_n b.1 b.2.1 dX12_tellCond_351 rfl (lv_at hl 1 rfl) ?_
            refine gM_410 b hE dX12_tellCond_352 ?_
            obtain ⟨g59, hf⟩ := oC_s hf
            obtain ⟨h60, eh60, hf⟩ := oL_s hf
            refine n_iast b hE rfl rfl g59 eh60 dX12_tellCond_355 (fun H locs hE => ?_)
            exact wfX12_tellCond_356 b hlk hr zs zk  hf hE (lv_sub hl [1] rfl)
          · have hf := oI_f c47 hf
            refine lv_aload_n b.1 b.2.1 dX12_tellCond_183 rfl (lv_at hl 1 rfl) ?_
            refine gM_119 b hE dX12_tellCond_184 ?_
            refine lv_iload_n b.1 b.2.1 dX12_tellCond_187 rfl (lv_at hl 0 rfl) ?_
            refine lv_iconst (v := 3) b.1 b.2.1 dX12_tellCond_188 (by decide) ?_
            obtain ⟨g61, hf⟩ := oC_s hf
            obtain ⟨h62, eh62, hf⟩ := oL_s hf
            refine n_iast b hE rfl rfl g61 eh62 dX12_tellCond_189 (fun H locs hE => ?_)
            refine lv_aload_n b.1 b.2.1 dX12_tellCond_190 rfl (lv_at hl 1 rfl) ?_
            obtain ⟨h64, hc63, hf⟩ := oB_s hf
            refine k_callV0 (C := RX12) b zs zk hE (CX12_next l D aC ad zk hc63) mc_X12_next (in7 117 rfl rfl) mi_X12_next ms_X12_next ini_RX12 ok_X12_next (m_recv b hE) ⟨Nat.le_of_ble_eq_true rfl, Nat.le_of_ble_eq_true rfl⟩ rfl hl.1 rfl (k_room _ (by exact Nat.le_of_ble_eq_true rfl)) ⟨Nat.le_refl _, Nat.le_refl _⟩ dX12_tellCond_191 (fun H locs hE => ?_)
            refine lv_aload_n b.1 b.2.1 dX12_tellCond_194 rfl (lv_at hl 1 rfl) ?_
            refine gM_137 b hE dX12_tellCond_195 ?_
            refine lv_iload_n b.1 b.2.1 dX12_tellCond_198 rfl (lv_at hl 0 rfl) ?_
            refine lv_aload_n b.1 b.2.1 dX12_tellCond_199 rfl (lv_at hl 1 rfl) ?_
            refine gM_356 b hE dX12_tellCond_200 ?_
            obtain ⟨g65, hf⟩ := oC_s hf
            obtain ⟨h66, eh66, hf⟩ := oL_s hf
            refine n_iast b hE rfl rfl g65 eh66 dX12_tellCond_203 (fun H locs hE => ?_)
            refine lv_aload_n b.1 b.2.1 dX12_tellCond_204 rfl (lv_at hl 1 rfl) ?_
            obtain ⟨h68, hc67, hf⟩ := oB_s hf
            refine k_callV0 (C := RX12) b zs zk hE (CX12_expression l D aC ad zk hc67) mc_X12_expression (in7 169 rfl rfl) mi_X12_expression ms_X12_expression ini_RX12 ok_X12_expression (m_recv b hE) ⟨Nat.le_of_ble_eq_true rfl, Nat.le_of_ble_eq_true rfl⟩ rfl hl.1 rfl (k_room _ (by exact Nat.le_of_ble_eq_true rfl)) ⟨Nat.le_refl _, Nat.le_refl _⟩ dX12_tellCond_205 (fun H locs hE => ?_)
            refine lv_aload_n b.1 b.2.1 dX12_tellCond_208 rfl (lv_at hl 1 rfl) ?_
            refine gM_140 b hE dX12_tellCond_209 ?_
            refine lv_iload_n b.1 b.2.1 dX12_tellCond_212 rfl (lv_at hl 0 rfl) ?_
            refine lv_aload_n b.1 b.2.1 dX12_tellCond_213 rfl (lv_at hl 1 rfl) ?_
            refine gM_356 b hE dX12_tellCond_214 ?_
            obtain ⟨g69, hf⟩ := oC_s hf
            obtain ⟨h70, eh70, hf⟩ := oL_s hf
            refine n_iast b hE rfl rfl g69 eh70 dX12_tellCond_217 (fun H locs hE => ?_)
            refine lv_aload_n b.1 b.2.1 dX12_tellCond_218 rfl (lv_at hl 1 rfl) ?_
            refine gM_294 b hE dX12_tellCond_219 ?_
            refine lv_if_ne (tgt := 258) b.1 b.2.1 dX12_tellCond_222 (by decide) (fun c71 => ?_) (fun c71 => ?_)
            · have hf := oI_f c71 hf
              exact wfX12_tellCond_258 b hlk hr zs zk  hf hE (lv_sub hl [1, 0] rfl)
            · have hf := oI_t c71 hf
              refine lv_aload_n b.1 b.2.1 dX12_tellCond_225 rfl (lv_at hl 1 rfl) ?_
              refine gM_20 b hE dX12_tellCond_226 ?_
              refine lv_aload_n b.1 b.2.1 dX12_tellCond_229 rfl (lv_at hl 1 rfl) ?_
              refine gM_297 b hE dX12_tellCond_230 ?_
              obtain ⟨g72, hf⟩ := oC_s hf
              refine m_iald b hE rfl rfl g72 dX12_tellCond_233 ?_
              refine lv_bipush (v := 16) b.1 b.2.1 dX12_tellCond_234 (by decide) ?_
              refine lv_icmp_lt (tgt := 253) b.1 b.2.1 dX12_tellCond_236 (by decide) (fun c73 => ?_) (fun c73 => ?_)
              · have hf := oI_t c73 hf
                exact wfX12_tellCond_253 b hlk hr zs zk  hf hE (lv_sub hl [1, 0] rfl)
              · have hf := oI_f c73 hf
                refine lv_aload_n b.1 b.2.1 dX12_tellCond_239 rfl (lv_at hl 1 rfl) ?_
                refine gM_20 b hE dX12_tellCond_240 ?_
                refine lv_aload_n b.1 b.2.1 dX12_tellCond_243 rfl (lv_at hl 1 rfl) ?_
                refine gM_297 b hE dX12_tellCond_244 ?_
                obtain ⟨g74, hf⟩ := oC_s hf
                refine m_iald b hE rfl rfl g74 dX12_tellCond_247 ?_
                refine lv_bipush (v := 19) b.1 b.2.1 dX12_tellCond_248 (by decide) ?_
                refine lv_icmp_le (tgt := 258) b.1 b.2.1 dX12_tellCond_250 (by decide) (fun c75 => ?_) (fun c75 => ?_)
                · have hf := oI_t c75 hf
                  exact wfX12_tellCond_258 b hlk hr zs zk  hf hE (lv_sub hl [1, 0] rfl)
                · have hf := oI_f c75 hf
                  exact wfX12_tellCond_253 b hlk hr zs zk  hf hE (lv_sub hl [1, 0] rfl)
        · have hf := oI_f c44 hf
          exact wfX12_tellCond_116 b hlk hr zs zk  hf hE (lv_sub hl [1, 0] rfl)
    · have hf := oI_t c36 hf
      refine lv_aload_n b.1 b.2.1 dX12_tellCond_74 rfl (lv_at hl 1 rfl) ?_
      refine lv_iconst (v := 2) b.1 b.2.1 dX12_tellCond_75 (by decide) ?_
      obtain ⟨h77, hc76, hf⟩ := oB_s hf
      refine k_callV0 (C := RX12) b zs zk hE (CX12_fail l D aC ad zk hc76) mc_X12_fail (in7 121 rfl rfl) mi_X12_fail ms_X12_fail ini_RX12 ok_X12_fail (m_recv b hE) ⟨Nat.le_of_ble_eq_true rfl, Nat.le_of_ble_eq_true rfl⟩ rfl hl.1 rfl (k_room _ (by exact Nat.le_of_ble_eq_true rfl)) ⟨Nat.le_refl _, Nat.le_refl _⟩ dX12_tellCond_76 (fun H locs hE => ?_)
      cases hf
      exact k_vret b hlk hr hE (Nat.le_refl _) (Nat.le_refl _) dX12_tellCond_79
  · have hf := oI_t c34 hf
    refine lv_aload_n b.1 b.2.1 dX12_tellCond_54 rfl (lv_at hl 1 rfl) ?_
    refine lv_iconst (v := 1) b.1 b.2.1 dX12_tellCond_55 (by decide) ?_
    obtain ⟨h79, hc78, hf⟩ := oB_s hf
    refine k_callV0 (C := RX12) b zs zk hE (CX12_fail l D aC ad zk hc78) mc_X12_fail (in7 121 rfl rfl) mi_X12_fail ms_X12_fail ini_RX12 ok_X12_fail (m_recv b hE) ⟨Nat.le_of_ble_eq_true rfl, Nat.le_of_ble_eq_true rfl⟩ rfl hl.1 rfl (k_room _ (by exact Nat.le_of_ble_eq_true rfl)) ⟨Nat.le_refl _, Nat.le_refl _⟩ dX12_tellCond_56 (fun H locs hE => ?_)
    cases hf
    exact k_vret b hlk hr hE (Nat.le_refl _) (Nat.le_refl _) dX12_tellCond_59
def fX12_tellCond_0  (h : MS) : Option (MS) :=
  oB (fX12_is h 32) (fun r81 => if r81 = 0 then (oB (fX12_is h 33) (fun r84 => if r84 = 0 then (oB (fX12_is h 34) (fun r87 => if r87 = 0 then (oB (fX12_is h 35) (fun r90 => if r90 = 0 then (oB (fX12_is h 1) (fun r93 => if r93 = 0 then (fX12_tellCond_49  h 0) else (fX12_tellCond_49  h 1))) else (fX12_tellCond_49  h 1))) else (fX12_tellCond_49  h 1))) else (fX12_tellCond_49  h 1))) else (fX12_tellCond_49  h 1))
set_option maxHeartbeats 4000000 in
theorem wfX12_tellCond_0 {args : Array Value} (b : Bd p s m c cX12_tellCond 3 RX12 D aC) (hlk : meth.locks = false) (hr : meth.sig.returnType = none) {Z : State → Prop} (zs : Z s) (zk : ZOK Z (Rg ad)) {hz : MS} {h : MS}  {H : Heap} {locs : List Loc} {ls : Array Slot} (hf : fX12_tellCond_0 h = some hz) (hE : CE (EM D aC ad h) (Rg ad) s H locs) (hl : lv_has ls 3 [(0, .ref (ad 116))]) : W p l e (RM 6 130 0 0) s m args below meth c H locs 0 0 (MQ below (PQ (EM D aC ad hz) (Rg ad) none) args s 0 0 (Rg ad)) (F0 m 0 ls []) := by
  unfold fX12_tellCond_0 at hf
  refine lv_aload_n b.1 b.2.1 dX12_tellCond_0 rfl (lv_at hl 0 rfl) ?_
  refine lv_bipush (v := 32) b.1 b.2.1 dX12_tellCond_1 (by decide) ?_
  obtain ⟨r81, hc80, hf⟩ := oB_s hf
  refine k_callV0 (C := RX12) b zs zk hE (CX12_is l D aC ad zk hc80) mc_X12_is (in7 109 rfl rfl) mi_X12_is ms_X12_is ini_RX12 ok_X12_is (m_recv b hE) ⟨Nat.le_of_ble_eq_true rfl, Nat.le_of_ble_eq_true rfl⟩ rfl hl.1 rfl (k_room _ (by exact Nat.le_of_ble_eq_true rfl)) ⟨Nat.le_refl _, Nat.le_refl _⟩ dX12_tellCond_3 (fun H locs hE => ?_)
  refine lv_if_ne (tgt := 44) b.1 b.2.1 dX12_tellCond_6 (by decide) (fun c82 => ?_) (fun c82 => ?_)
  · have hf := oI_f c82 hf
    refine lv_iconst (v := 1) b.1 b.2.1 dX12_tellCond_44 (by decide) ?_
    refine lv_goto (tgt := 49) b.1 b.2.1 dX12_tellCond_45 (by decide) ?_
    exact wfX12_tellCond_49 b hlk hr zs zk  hf hE (lv_sub hl [0] rfl)
  · have hf := oI_t c82 hf
    refine lv_aload_n b.1 b.2.1 dX12_tellCond_9 rfl (lv_at hl 0 rfl) ?_
    refine lv_bipush (v := 33) b.1 b.2.1 dX12_tellCond_10 (by decide) ?_
    obtain ⟨r84, hc83, hf⟩ := oB_s hf
    refine k_callV0 (C := RX12) b zs zk hE (CX12_is l D aC ad zk hc83) mc_X12_is (in7 109 rfl rfl) mi_X12_is ms_X12_is ini_RX12 ok_X12_is (m_recv b hE) ⟨Nat.le_of_ble_eq_true rfl, Nat.le_of_ble_eq_true rfl⟩ rfl hl.1 rfl (k_room _ (by exact Nat.le_of_ble_eq_true rfl)) ⟨Nat.le_refl _, Nat.le_refl _⟩ dX12_tellCond_12 (fun H locs hE => ?_)
    refine lv_if_ne (tgt := 44) b.1 b.2.1 dX12_tellCond_15 (by decide) (fun c85 => ?_) (fun c85 => ?_)
    · have hf := oI_f c85 hf
      refine lv_iconst (v := 1) b.1 b.2.1 dX12_tellCond_44 (by decide) ?_
      refine lv_goto (tgt := 49) b.1 b.2.1 dX12_tellCond_45 (by decide) ?_
      exact wfX12_tellCond_49 b hlk hr zs zk  hf hE (lv_sub hl [0] rfl)
    · have hf := oI_t c85 hf
      refine lv_aload_n b.1 b.2.1 dX12_tellCond_18 rfl (lv_at hl 0 rfl) ?_
      refine lv_bipush (v := 34) b.1 b.2.1 dX12_tellCond_19 (by decide) ?_
      obtain ⟨r87, hc86, hf⟩ := oB_s hf
      refine k_callV0 (C := RX12) b zs zk hE (CX12_is l D aC ad zk hc86) mc_X12_is (in7 109 rfl rfl) mi_X12_is ms_X12_is ini_RX12 ok_X12_is (m_recv b hE) ⟨Nat.le_of_ble_eq_true rfl, Nat.le_of_ble_eq_true rfl⟩ rfl hl.1 rfl (k_room _ (by exact Nat.le_of_ble_eq_true rfl)) ⟨Nat.le_refl _, Nat.le_refl _⟩ dX12_tellCond_21 (fun H locs hE => ?_)
      refine lv_if_ne (tgt := 44) b.1 b.2.1 dX12_tellCond_24 (by decide) (fun c88 => ?_) (fun c88 => ?_)
      · have hf := oI_f c88 hf
        refine lv_iconst (v := 1) b.1 b.2.1 dX12_tellCond_44 (by decide) ?_
        refine lv_goto (tgt := 49) b.1 b.2.1 dX12_tellCond_45 (by decide) ?_
        exact wfX12_tellCond_49 b hlk hr zs zk  hf hE (lv_sub hl [0] rfl)
      · have hf := oI_t c88 hf
        refine lv_aload_n b.1 b.2.1 dX12_tellCond_27 rfl (lv_at hl 0 rfl) ?_
        refine lv_bipush (v := 35) b.1 b.2.1 dX12_tellCond_28 (by decide) ?_
        obtain ⟨r90, hc89, hf⟩ := oB_s hf
        refine k_callV0 (C := RX12) b zs zk hE (CX12_is l D aC ad zk hc89) mc_X12_is (in7 109 rfl rfl) mi_X12_is ms_X12_is ini_RX12 ok_X12_is (m_recv b hE) ⟨Nat.le_of_ble_eq_true rfl, Nat.le_of_ble_eq_true rfl⟩ rfl hl.1 rfl (k_room _ (by exact Nat.le_of_ble_eq_true rfl)) ⟨Nat.le_refl _, Nat.le_refl _⟩ dX12_tellCond_30 (fun H locs hE => ?_)
        refine lv_if_ne (tgt := 44) b.1 b.2.1 dX12_tellCond_33 (by decide) (fun c91 => ?_) (fun c91 => ?_)
        · have hf := oI_f c91 hf
          refine lv_iconst (v := 1) b.1 b.2.1 dX12_tellCond_44 (by decide) ?_
          refine lv_goto (tgt := 49) b.1 b.2.1 dX12_tellCond_45 (by decide) ?_
          exact wfX12_tellCond_49 b hlk hr zs zk  hf hE (lv_sub hl [0] rfl)
        · have hf := oI_t c91 hf
          refine lv_aload_n b.1 b.2.1 dX12_tellCond_36 rfl (lv_at hl 0 rfl) ?_
          refine lv_iconst (v := 1) b.1 b.2.1 dX12_tellCond_37 (by decide) ?_
          obtain ⟨r93, hc92, hf⟩ := oB_s hf
          refine k_callV0 (C := RX12) b zs zk hE (CX12_is l D aC ad zk hc92) mc_X12_is (in7 109 rfl rfl) mi_X12_is ms_X12_is ini_RX12 ok_X12_is (m_recv b hE) ⟨Nat.le_of_ble_eq_true rfl, Nat.le_of_ble_eq_true rfl⟩ rfl hl.1 rfl (k_room _ (by exact Nat.le_of_ble_eq_true rfl)) ⟨Nat.le_refl _, Nat.le_refl _⟩ dX12_tellCond_38 (fun H locs hE => ?_)
          refine lv_if_eq (tgt := 48) b.1 b.2.1 dX12_tellCond_41 (by decide) (fun c94 => ?_) (fun c94 => ?_)
          · have hf := oI_t c94 hf
            refine lv_iconst (v := 0) b.1 b.2.1 dX12_tellCond_48 (by decide) ?_
            exact wfX12_tellCond_49 b hlk hr zs zk  hf hE (lv_sub hl [0] rfl)
          · have hf := oI_f c94 hf
            refine lv_iconst (v := 1) b.1 b.2.1 dX12_tellCond_44 (by decide) ?_
            refine lv_goto (tgt := 49) b.1 b.2.1 dX12_tellCond_45 (by decide) ?_
            exact wfX12_tellCond_49 b hlk hr zs zk  hf hE (lv_sub hl [0] rfl)
def fX12_tellCond (h : MS) : Option (MS) := fX12_tellCond_0 h 
set_option maxHeartbeats 4000000 in
theorem CX12_tellCond (l : Launch) (D : va_G) (aC : Nat → ClassId) (ad : Nat → Nat) {Z : State → Prop} (zk : ZOK Z (Rg ad)) {h : MS} {hz : MS} (hf : fX12_tellCond h = some hz) : CM l D aC Z yX12_tellCond cX12_tellCond 3 (none) 6 130 0 0 (EM D aC ad h) [.ref (ad 116)] (EM D aC ad hz) none (Rg ad) := by
  refine CM.of rfl ?_
  intro p e s m below meth c b hr hlk hin2 zs hE
  refine k_ent (Nat.le_of_ble_eq_true rfl) (fun ls hl => ?_)
  exact wfX12_tellCond_0 b hlk hr zs zk hf hE (lv_sub hl [0] rfl)
end
